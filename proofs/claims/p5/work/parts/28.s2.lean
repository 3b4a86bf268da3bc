def pt3 (pf : Nat → Int32) (x y z : Nat) : Nat → Int32 := upd (upd (upd pf 0 (nI x)) 1 (nI y)) 2 (nI z)
theorem pt3_e {pf : Nat → Int32} {x y z : Nat} {ef : Nat → Nat} (h0 : ef 0 = x) (h1 : ef 1 = y) (h2 : ef 2 = z) (k : Nat) (hk : k < 3) : pt3 pf x y z k = nI (ef k) := by
  rcases (show k = 0 ∨ k = 1 ∨ k = 2 by omega) with rfl | rfl | rfl
  · unfold pt3; rw [upd_n (by decide), upd_n (by decide), upd_s, h0]
  · unfold pt3; rw [upd_n (by decide), upd_s, h1]
  · unfold pt3; rw [upd_s, h2]
theorem pr_s {st F G : Nat → Int32} {Wr : Nat → Nat} {j : Nat} (h : ∀ k, k < j → F k = nI (Wr k) ∧ G k = nI (Wr k / 25)) (hs : st j = nI (Wr j)) (h9 : Wr j ≤ 99) : ∀ k, k < j + 1 → upd F j (st j) k = nI (Wr k) ∧ upd G j (st j / 25) k = nI (Wr k / 25) := by
  intro k hk
  by_cases e : k = j
  · rw [e, upd_s, upd_s, hs]
    exact ⟨rfl, w25 (Wr j) (by omega)⟩
  · rw [upd_n e, upd_n e]
    exact h k (by omega)
theorem v3_le (w : Nat) : (if 3 < w then 3 else w) ≤ 3 := by split <;> omega
theorem v3_lt {w k : Nat} (h : k < if 3 < w then 3 else w) : k < w := by split at h <;> omega
set_option maxHeartbeats 4000000 in
set_option maxRecDepth 100000 in
theorem s_X1_worthOf (l : Launch) (g : he_G) (v0 : Nat) (v1 : Nat) (v2 : Nat) (v3 : Nat) (v : Nat) (dg : Int32) (wo : Nat → Int32) (he_ : Nat → Int32) (pf : Nat → Int32) (Wr : Nat → Nat) (se : Nat) (hs8 : se < 8) (hWo : ∀ k, k < 3 → bt se k = true → wo k = nI (Wr k)) : he_I l yX1_worthOf wsX1_worthOf 0 0 0 0 g [.ref v0, .int (nI se)] [(oX1 v0 v1 v2 v3 (nI v) dg), (aI g v1 3 wo), (aI g v2 3 he_), (aI g v3 3 pf)] (fun (r : Int32) (u : Unit) => r = nI (wor Wr se)) (fun (u : Unit) => [(oX1 v0 v1 v2 v3 (nI v) dg), (aI g v1 3 wo), (aI g v2 3 he_), (aI g v3 3 pf)]) := by
  refine he_begin (l := l) (g := g) (y := yX1_worthOf) (wl := wsX1_worthOf) (fr := 0) (lo := 0) (mc := 0) (ms := 0) (av := [.ref v0, .int (nI se)]) (ws := [(oX1 v0 v1 v2 v3 (nI v) dg), (aI g v1 3 wo), (aI g v2 3 he_), (aI g v3 3 pf)]) (cc := cX1_worthOf) (maxL := 4) (ret := (some .int)) (fun A => va_Qi (fun (r : Int32) (u : Unit) => r = nI (wor Wr se)) (fun u t => he_post g A ((fun (u : Unit) => [(oX1 v0 v1 v2 v3 (nI v) dg), (aI g v1 3 wo), (aI g v2 3 he_), (aI g v3 3 pf)]) u) t) A) (by decide) rfl (Nat.le_of_ble_eq_true rfl) ?_
  intro p e s m args below meth c A ls H locs Q hQ hB
  obtain ⟨hx, hb, hr, hml, hown, hts, hlk, hin, hP, hK, hD, hS, hA, hE, hl⟩ := hB
  have hl : lv_has ls 4 [(0, .ref v0), (1, .int (nI se))] := hl
  have f11 := hts (.fieldLink RX1 11 "HiredEnemy$Battle" "worth" "[I") (iwoX1_worthOf (k := 0) rfl)
  have inX1 : ∀ w ∈ wsX10, w ∈ wsX1_worthOf := innX1_worthOf_X1
  refine lv_iconst (v := 0) hx hb dX1_worthOf_0 (by decide) ?_
  refine lv_istore_n (lv' := [(2, .int 0), (0, .ref v0), (1, .int (nI se))]) hx hb dX1_worthOf_1 rfl hl (by decide) rfl (fun ls hl => ?_)
  refine lv_iconst (v := 0) hx hb dX1_worthOf_2 (by decide) ?_
  refine lv_istore_n (lv' := [(3, .int 0), (2, .int 0), (0, .ref v0), (1, .int (nI se))]) hx hb dX1_worthOf_3 rfl hl (by decide) rfl (fun ls hl => ?_)
  have loop4 : ∀ (n9 : Nat) (j : Nat) (ac : Nat), 3 - j < n9 → (j ≤ 3) → (ac = sP (fun k => if bt se k = true then Wr k else 0) j) → ∀ (H : Heap) (locs : List Loc) (ls : Array Slot), va_P g.1 vwCl [(oX1 v0 v1 v2 v3 (nI v) dg), (aI g v1 3 wo), (aI g v2 3 he_), (aI g v3 3 pf)] H → va_D A [(oX1 v0 v1 v2 v3 (nI v) dg), (aI g v1 3 wo), (aI g v2 3 he_), (aI g v3 3 pf)] → va_S A s.heap H locs → lv_has ls 4 [(0, .ref v0), (1, .int (nI se)), (2, .int (nI ac)), (3, .int (nI j))] → W p l e (he_room 0 0 0 0) s m args below meth c H locs 0 0 Q (F0 m 4 ls []) := by
    intro n9
    induction n9 with
    | zero => intro j ac hm9; exact absurd hm9 (Nat.not_lt_zero _)
    | succ n9 ih4 =>
      intro j ac hm9 hj hac H locs ls hP hD hS hl
      refine lv_iload_n hx hb dX1_worthOf_4 rfl (lv_at hl 3 rfl) ?_
      refine lv_iconst (v := 3) hx hb dX1_worthOf_5 (by decide) ?_
      refine lv_icmp_ge (tgt := 33) hx hb dX1_worthOf_6 (by decide) (fun c_1 => ?_) (fun c_1 => ?_)
      · have k_2 : 3 ≤ j := (he_cle (a := 3) (b := j) (by decide) rfl (by omega) (by omega)).mp c_1
        refine lv_iload_n hx hb dX1_worthOf_33 rfl (lv_at hl 2 rfl) ?_
        exact he_ri hQ hx hb hr hlk hP hD hS dX1_worthOf_34 (Nat.le_of_ble_eq_true rfl) (Nat.le_of_ble_eq_true rfl) (()) (rfl) ((congrArg nI (sP_e hac hj (by omega))))
      · have k_3 : ¬ (3 ≤ j) := fun h9 => c_1 ((he_cle (a := 3) (b := j) (by decide) rfl (by omega) (by omega)).mpr h9)
        refine lv_iload_n hx hb dX1_worthOf_9 rfl (lv_at hl 1 rfl) ?_
        refine lv_iload_n hx hb dX1_worthOf_10 rfl (lv_at hl 3 rfl) ?_
        refine lv_ishr hx hb dX1_worthOf_11 ?_
        refine lv_iconst (v := 1) hx hb dX1_worthOf_12 (by decide) ?_
        refine lv_iand hx hb dX1_worthOf_13 ?_
        refine he_top (bI se j) (bI_e se hs8 j (by omega)) ?_
        refine lv_iconst (v := 1) hx hb dX1_worthOf_14 (by decide) ?_
        refine lv_icmp_ne (tgt := 27) hx hb dX1_worthOf_15 (by decide) (fun c_4 => ?_) (fun c_4 => ?_)
        · have hbt : ¬ bt se j = true := bI_n1 c_4
          refine lv_iinc (v := nI (j + 1)) (lv' := [(3, .int (nI (j + 1))), (0, .ref v0), (1, .int (nI se)), (2, .int (nI ac))]) hx hb dX1_worthOf_27 hl (k := 3) rfl (nI_1 j) (by decide) rfl (fun ls hl => ?_)
          refine lv_goto (tgt := 4) hx hb dX1_worthOf_30 (by decide) ?_
          exact ih4 (j + 1) ac (by omega) (by omega) (sP_n hac (if_neg hbt)) _ _ _ hP hD hS (lv_sub hl [1, 2, 3, 0] rfl)
        · have hbt : bt se j = true := bI_1 c_4
          refine lv_iload_n hx hb dX1_worthOf_18 rfl (lv_at hl 2 rfl) ?_
          refine lv_aload_n hx hb dX1_worthOf_19 rfl (lv_at hl 0 rfl) ?_
          refine va_get (v := .ref v1) (T := TX1) (N := 5) hx hb hts inX1 hown hK hP 0 rfl rfl 0 (by decide) f11 (fun _ h9 => h9) rfl dX1_worthOf_20 ?_
          refine lv_iload_n hx hb dX1_worthOf_23 rfl (lv_at hl 3 rfl) ?_
          refine he_iald hx hb hK hP 1 rfl (j) rfl (by first | assumption | decide | omega) (by first | decide | assumption) (nI (Wr j)) (hWo j (by omega) hbt) dX1_worthOf_24 ?_
          refine lv_iadd hx hb dX1_worthOf_25 ?_
          refine he_top (nI (ac + Wr j)) (nI_add ac (Wr j)) ?_
          refine lv_istore_n (lv' := [(2, .int (nI (ac + Wr j))), (0, .ref v0), (1, .int (nI se)), (3, .int (nI j))]) hx hb dX1_worthOf_26 rfl hl (by decide) rfl (fun ls hl => ?_)
          refine lv_iinc (v := nI (j + 1)) (lv' := [(3, .int (nI (j + 1))), (2, .int (nI (ac + Wr j))), (0, .ref v0), (1, .int (nI se))]) hx hb dX1_worthOf_27 hl (k := 3) rfl (nI_1 j) (by decide) rfl (fun ls hl => ?_)
          refine lv_goto (tgt := 4) hx hb dX1_worthOf_30 (by decide) ?_
          exact ih4 (j + 1) (ac + Wr j) (by omega) (by omega) (sP_y hac (if_pos hbt)) _ _ _ hP hD hS (lv_sub hl [2, 3, 1, 0] rfl)
  exact loop4 ((3 - 0) + 1) 0 0 (Nat.lt_succ_self _) (Nat.zero_le _) rfl _ _ _ hP hD hS (lv_sub hl [2, 3, 1, 0] rfl)
set_option maxHeartbeats 4000000 in
set_option maxRecDepth 100000 in
theorem s_X1_menToFell (l : Launch) (g : he_G) (v0 : Nat) (v1 : Nat) (v2 : Nat) (v3 : Nat) (v : Nat) (dg : Int32) (wo : Nat → Int32) (he_ : Nat → Int32) (pf : Nat → Int32) (Wr : Nat → Nat) (ef : Nat → Nat) (se : Nat) (hs8 : se < 8) (hHe : ∀ k, k < 3 → bt se k = true → he_ k = nI (Wr k / 25)) (hPf : ∀ k, k < 3 → pf k = nI (ef k)) : he_I l yX1_menToFell wsX1_menToFell 0 0 0 0 g [.ref v0, .int (nI se)] [(oX1 v0 v1 v2 v3 (nI v) dg), (aI g v1 3 wo), (aI g v2 3 he_), (aI g v3 3 pf)] (fun (r : Int32) (u : Unit) => r = nI (nee Wr ef se)) (fun (u : Unit) => [(oX1 v0 v1 v2 v3 (nI v) dg), (aI g v1 3 wo), (aI g v2 3 he_), (aI g v3 3 pf)]) := by
  refine he_begin (l := l) (g := g) (y := yX1_menToFell) (wl := wsX1_menToFell) (fr := 0) (lo := 0) (mc := 0) (ms := 0) (av := [.ref v0, .int (nI se)]) (ws := [(oX1 v0 v1 v2 v3 (nI v) dg), (aI g v1 3 wo), (aI g v2 3 he_), (aI g v3 3 pf)]) (cc := cX1_menToFell) (maxL := 4) (ret := (some .int)) (fun A => va_Qi (fun (r : Int32) (u : Unit) => r = nI (nee Wr ef se)) (fun u t => he_post g A ((fun (u : Unit) => [(oX1 v0 v1 v2 v3 (nI v) dg), (aI g v1 3 wo), (aI g v2 3 he_), (aI g v3 3 pf)]) u) t) A) (by decide) rfl (Nat.le_of_ble_eq_true rfl) ?_
  intro p e s m args below meth c A ls H locs Q hQ hB
  obtain ⟨hx, hb, hr, hml, hown, hts, hlk, hin, hP, hK, hD, hS, hA, hE, hl⟩ := hB
  have hl : lv_has ls 4 [(0, .ref v0), (1, .int (nI se))] := hl
  have f18 := hts (.fieldLink RX1 18 "HiredEnemy$Battle" "put" "[I") (iwoX1_menToFell (k := 0) rfl)
  have inX1 : ∀ w ∈ wsX10, w ∈ wsX1_menToFell := innX1_menToFell_X1
  have f15 := hts (.fieldLink RX1 15 "HiredEnemy$Battle" "held" "[I") (iwoX1_menToFell (k := 1) rfl)
  refine lv_iconst (v := 0) hx hb dX1_menToFell_0 (by decide) ?_
  refine lv_istore_n (lv' := [(2, .int 0), (0, .ref v0), (1, .int (nI se))]) hx hb dX1_menToFell_1 rfl hl (by decide) rfl (fun ls hl => ?_)
  refine lv_iconst (v := 0) hx hb dX1_menToFell_2 (by decide) ?_
  refine lv_istore_n (lv' := [(3, .int 0), (2, .int 0), (0, .ref v0), (1, .int (nI se))]) hx hb dX1_menToFell_3 rfl hl (by decide) rfl (fun ls hl => ?_)
  have loop4 : ∀ (n9 : Nat) (j : Nat) (ac : Nat), 3 - j < n9 → (j ≤ 3) → (ac = sP (fun k => if bt se k = true then ef k + Wr k / 25 + 1 else 0) j) → ∀ (H : Heap) (locs : List Loc) (ls : Array Slot), va_P g.1 vwCl [(oX1 v0 v1 v2 v3 (nI v) dg), (aI g v1 3 wo), (aI g v2 3 he_), (aI g v3 3 pf)] H → va_D A [(oX1 v0 v1 v2 v3 (nI v) dg), (aI g v1 3 wo), (aI g v2 3 he_), (aI g v3 3 pf)] → va_S A s.heap H locs → lv_has ls 4 [(0, .ref v0), (1, .int (nI se)), (2, .int (nI ac)), (3, .int (nI j))] → W p l e (he_room 0 0 0 0) s m args below meth c H locs 0 0 Q (F0 m 4 ls []) := by
    intro n9
    induction n9 with
    | zero => intro j ac hm9; exact absurd hm9 (Nat.not_lt_zero _)
    | succ n9 ih4 =>
      intro j ac hm9 hj hac H locs ls hP hD hS hl
      refine lv_iload_n hx hb dX1_menToFell_4 rfl (lv_at hl 3 rfl) ?_
      refine lv_iconst (v := 3) hx hb dX1_menToFell_5 (by decide) ?_
      refine lv_icmp_ge (tgt := 42) hx hb dX1_menToFell_6 (by decide) (fun c_1 => ?_) (fun c_1 => ?_)
      · have k_2 : 3 ≤ j := (he_cle (a := 3) (b := j) (by decide) rfl (by omega) (by omega)).mp c_1
        refine lv_iload_n hx hb dX1_menToFell_42 rfl (lv_at hl 2 rfl) ?_
        exact he_ri hQ hx hb hr hlk hP hD hS dX1_menToFell_43 (Nat.le_of_ble_eq_true rfl) (Nat.le_of_ble_eq_true rfl) (()) (rfl) ((congrArg nI (sP_e hac hj (by omega))))
      · have k_3 : ¬ (3 ≤ j) := fun h9 => c_1 ((he_cle (a := 3) (b := j) (by decide) rfl (by omega) (by omega)).mpr h9)
        refine lv_iload_n hx hb dX1_menToFell_9 rfl (lv_at hl 1 rfl) ?_
        refine lv_iload_n hx hb dX1_menToFell_10 rfl (lv_at hl 3 rfl) ?_
        refine lv_ishr hx hb dX1_menToFell_11 ?_
        refine lv_iconst (v := 1) hx hb dX1_menToFell_12 (by decide) ?_
        refine lv_iand hx hb dX1_menToFell_13 ?_
        refine he_top (bI se j) (bI_e se hs8 j (by omega)) ?_
        refine lv_iconst (v := 1) hx hb dX1_menToFell_14 (by decide) ?_
        refine lv_icmp_ne (tgt := 36) hx hb dX1_menToFell_15 (by decide) (fun c_4 => ?_) (fun c_4 => ?_)
        · have hbt : ¬ bt se j = true := bI_n1 c_4
          refine lv_iinc (v := nI (j + 1)) (lv' := [(3, .int (nI (j + 1))), (0, .ref v0), (1, .int (nI se)), (2, .int (nI ac))]) hx hb dX1_menToFell_36 hl (k := 3) rfl (nI_1 j) (by decide) rfl (fun ls hl => ?_)
          refine lv_goto (tgt := 4) hx hb dX1_menToFell_39 (by decide) ?_
          exact ih4 (j + 1) ac (by omega) (by omega) (sP_n hac (if_neg hbt)) _ _ _ hP hD hS (lv_sub hl [1, 2, 3, 0] rfl)
        · have hbt : bt se j = true := bI_1 c_4
          refine lv_iload_n hx hb dX1_menToFell_18 rfl (lv_at hl 2 rfl) ?_
          refine lv_aload_n hx hb dX1_menToFell_19 rfl (lv_at hl 0 rfl) ?_
          refine va_get (v := .ref v3) (T := TX1) (N := 5) hx hb hts inX1 hown hK hP 0 rfl rfl 2 (by decide) f18 (fun _ h9 => h9) rfl dX1_menToFell_20 ?_
          refine lv_iload_n hx hb dX1_menToFell_23 rfl (lv_at hl 3 rfl) ?_
          refine he_iald hx hb hK hP 3 rfl (j) rfl (by first | assumption | decide | omega) (by first | decide | assumption) (nI (ef j)) (hPf j (by omega)) dX1_menToFell_24 ?_
          refine lv_aload_n hx hb dX1_menToFell_25 rfl (lv_at hl 0 rfl) ?_
          refine va_get (v := .ref v2) (T := TX1) (N := 5) hx hb hts inX1 hown hK hP 0 rfl rfl 1 (by decide) f15 (fun _ h9 => h9) rfl dX1_menToFell_26 ?_
          refine lv_iload_n hx hb dX1_menToFell_29 rfl (lv_at hl 3 rfl) ?_
          refine he_iald hx hb hK hP 2 rfl (j) rfl (by first | assumption | decide | omega) (by first | decide | assumption) (nI (Wr j / 25)) (hHe j (by omega) hbt) dX1_menToFell_30 ?_
          refine lv_iadd hx hb dX1_menToFell_31 ?_
          refine he_top (nI (ef j + Wr j / 25)) (nI_add (ef j) (Wr j / 25)) ?_
          refine lv_iconst (v := 1) hx hb dX1_menToFell_32 (by decide) ?_
          refine lv_iadd hx hb dX1_menToFell_33 ?_
          refine he_top (nI (ef j + Wr j / 25 + 1)) (nI_add (ef j + Wr j / 25) 1) ?_
          refine lv_iadd hx hb dX1_menToFell_34 ?_
          refine he_top (nI (ac + (ef j + Wr j / 25 + 1))) (nI_add ac (ef j + Wr j / 25 + 1)) ?_
          refine lv_istore_n (lv' := [(2, .int (nI (ac + (ef j + Wr j / 25 + 1)))), (0, .ref v0), (1, .int (nI se)), (3, .int (nI j))]) hx hb dX1_menToFell_35 rfl hl (by decide) rfl (fun ls hl => ?_)
          refine lv_iinc (v := nI (j + 1)) (lv' := [(3, .int (nI (j + 1))), (2, .int (nI (ac + (ef j + Wr j / 25 + 1)))), (0, .ref v0), (1, .int (nI se))]) hx hb dX1_menToFell_36 hl (k := 3) rfl (nI_1 j) (by decide) rfl (fun ls hl => ?_)
          refine lv_goto (tgt := 4) hx hb dX1_menToFell_39 (by decide) ?_
          exact ih4 (j + 1) (ac + (ef j + Wr j / 25 + 1)) (by omega) (by omega) (sP_y hac (if_pos hbt)) _ _ _ hP hD hS (lv_sub hl [2, 3, 1, 0] rfl)
  exact loop4 ((3 - 0) + 1) 0 0 (Nat.lt_succ_self _) (Nat.zero_le _) rfl _ _ _ hP hD hS (lv_sub hl [2, 3, 1, 0] rfl)
set_option maxHeartbeats 4000000 in
set_option maxRecDepth 100000 in
theorem s_X1_menToHold (l : Launch) (g : he_G) (v0 : Nat) (v1 : Nat) (v2 : Nat) (v3 : Nat) (v : Nat) (dg : Int32) (wo : Nat → Int32) (he_ : Nat → Int32) (pf : Nat → Int32) (Wr : Nat → Nat) (ef : Nat → Nat) (se : Nat) (hs8 : se < 8) (hHe : ∀ k, k < 3 → bt se k = true → he_ k = nI (Wr k / 25)) (hPf : ∀ k, k < 3 → pf k = nI (ef k)) (hef : ∀ k, ef k ≤ 6) (hW9 : ∀ k, Wr k ≤ 99) : he_I l yX1_menToHold wsX1_menToHold 1 14 0 0 g [.ref v0, .int (nI se)] [(oX1 v0 v1 v2 v3 (nI v) dg), (aI g v1 3 wo), (aI g v2 3 he_), (aI g v3 3 pf)] (fun (r : Int32) (u : Unit) => r = nI (hol Wr ef se)) (fun (u : Unit) => [(oX1 v0 v1 v2 v3 (nI v) dg), (aI g v1 3 wo), (aI g v2 3 he_), (aI g v3 3 pf)]) := by
  refine he_begin (l := l) (g := g) (y := yX1_menToHold) (wl := wsX1_menToHold) (fr := 1) (lo := 14) (mc := 0) (ms := 0) (av := [.ref v0, .int (nI se)]) (ws := [(oX1 v0 v1 v2 v3 (nI v) dg), (aI g v1 3 wo), (aI g v2 3 he_), (aI g v3 3 pf)]) (cc := cX1_menToHold) (maxL := 4) (ret := (some .int)) (fun A => va_Qi (fun (r : Int32) (u : Unit) => r = nI (hol Wr ef se)) (fun u t => he_post g A ((fun (u : Unit) => [(oX1 v0 v1 v2 v3 (nI v) dg), (aI g v1 3 wo), (aI g v2 3 he_), (aI g v3 3 pf)]) u) t) A) (by decide) rfl (Nat.le_of_ble_eq_true rfl) ?_
  intro p e s m args below meth c A ls H locs Q hQ hB
  obtain ⟨hx, hb, hr, hml, hown, hts, hlk, hin, hP, hK, hD, hS, hA, hE, hl⟩ := hB
  have hl : lv_has ls 4 [(0, .ref v0), (1, .int (nI se))] := hl
  have f18 := hts (.fieldLink RX1 18 "HiredEnemy$Battle" "put" "[I") (iwoX1_menToHold (k := 0) rfl)
  have inX1 : ∀ w ∈ wsX10, w ∈ wsX1_menToHold := innX1_menToHold_X1
  have f15 := hts (.fieldLink RX1 15 "HiredEnemy$Battle" "held" "[I") (iwoX1_menToHold (k := 1) rfl)
  have ml51 := hts (.methodLink RX1 51 Lib.Math.max.name) (iwoX1_menToHold (k := 2) rfl)
  have msmax := hts (.static Lib.Math.max.name) (iwoX1_menToHold (k := 3) rfl)
  have mi := hts (.initialized "java/lang/Math") (iwoX1_menToHold (k := 4) rfl)
  have mcmax := hts (.code Lib.Math.max.name Lib.Math.max.code 2 (some .int)) (iwoX1_menToHold (k := 5) rfl)
  refine lv_iconst (v := 0) hx hb dX1_menToHold_0 (by decide) ?_
  refine lv_istore_n (lv' := [(2, .int 0), (0, .ref v0), (1, .int (nI se))]) hx hb dX1_menToHold_1 rfl hl (by decide) rfl (fun ls hl => ?_)
  refine lv_iconst (v := 0) hx hb dX1_menToHold_2 (by decide) ?_
  refine lv_istore_n (lv' := [(3, .int 0), (2, .int 0), (0, .ref v0), (1, .int (nI se))]) hx hb dX1_menToHold_3 rfl hl (by decide) rfl (fun ls hl => ?_)
  have loop4 : ∀ (n9 : Nat) (j : Nat) (ac : Nat), 3 - j < n9 → (j ≤ 3) → (ac = sP (fun k => if bt se k = true then ef k - Wr k / 25 else 0) j) → ∀ (H : Heap) (locs : List Loc) (ls : Array Slot), va_P g.1 vwCl [(oX1 v0 v1 v2 v3 (nI v) dg), (aI g v1 3 wo), (aI g v2 3 he_), (aI g v3 3 pf)] H → va_D A [(oX1 v0 v1 v2 v3 (nI v) dg), (aI g v1 3 wo), (aI g v2 3 he_), (aI g v3 3 pf)] → va_S A s.heap H locs → lv_has ls 4 [(0, .ref v0), (1, .int (nI se)), (2, .int (nI ac)), (3, .int (nI j))] → W p l e (he_room 1 14 0 0) s m args below meth c H locs 0 0 Q (F0 m 4 ls []) := by
    intro n9
    induction n9 with
    | zero => intro j ac hm9; exact absurd hm9 (Nat.not_lt_zero _)
    | succ n9 ih4 =>
      intro j ac hm9 hj hac H locs ls hP hD hS hl
      refine lv_iload_n hx hb dX1_menToHold_4 rfl (lv_at hl 3 rfl) ?_
      refine lv_iconst (v := 3) hx hb dX1_menToHold_5 (by decide) ?_
      refine lv_icmp_ge (tgt := 44) hx hb dX1_menToHold_6 (by decide) (fun c_1 => ?_) (fun c_1 => ?_)
      · have k_2 : 3 ≤ j := (he_cle (a := 3) (b := j) (by decide) rfl (by omega) (by omega)).mp c_1
        refine lv_iload_n hx hb dX1_menToHold_44 rfl (lv_at hl 2 rfl) ?_
        exact he_ri hQ hx hb hr hlk hP hD hS dX1_menToHold_45 (Nat.le_of_ble_eq_true rfl) (Nat.le_of_ble_eq_true rfl) (()) (rfl) ((congrArg nI (sP_e hac hj (by omega))))
      · have k_3 : ¬ (3 ≤ j) := fun h9 => c_1 ((he_cle (a := 3) (b := j) (by decide) rfl (by omega) (by omega)).mpr h9)
        refine lv_iload_n hx hb dX1_menToHold_9 rfl (lv_at hl 1 rfl) ?_
        refine lv_iload_n hx hb dX1_menToHold_10 rfl (lv_at hl 3 rfl) ?_
        refine lv_ishr hx hb dX1_menToHold_11 ?_
        refine lv_iconst (v := 1) hx hb dX1_menToHold_12 (by decide) ?_
        refine lv_iand hx hb dX1_menToHold_13 ?_
        refine he_top (bI se j) (bI_e se hs8 j (by omega)) ?_
        refine lv_iconst (v := 1) hx hb dX1_menToHold_14 (by decide) ?_
        refine lv_icmp_ne (tgt := 38) hx hb dX1_menToHold_15 (by decide) (fun c_4 => ?_) (fun c_4 => ?_)
        · have hbt : ¬ bt se j = true := bI_n1 c_4
          refine lv_iinc (v := nI (j + 1)) (lv' := [(3, .int (nI (j + 1))), (0, .ref v0), (1, .int (nI se)), (2, .int (nI ac))]) hx hb dX1_menToHold_38 hl (k := 3) rfl (nI_1 j) (by decide) rfl (fun ls hl => ?_)
          refine lv_goto (tgt := 4) hx hb dX1_menToHold_41 (by decide) ?_
          exact ih4 (j + 1) ac (by omega) (by omega) (sP_n hac (if_neg hbt)) _ _ _ hP hD hS (lv_sub hl [1, 2, 3, 0] rfl)
        · have hbt : bt se j = true := bI_1 c_4
          refine lv_iload_n hx hb dX1_menToHold_18 rfl (lv_at hl 2 rfl) ?_
          refine lv_iconst (v := 0) hx hb dX1_menToHold_19 (by decide) ?_
          refine lv_aload_n hx hb dX1_menToHold_20 rfl (lv_at hl 0 rfl) ?_
          refine va_get (v := .ref v3) (T := TX1) (N := 5) hx hb hts inX1 hown hK hP 0 rfl rfl 2 (by decide) f18 (fun _ h9 => h9) rfl dX1_menToHold_21 ?_
          refine lv_iload_n hx hb dX1_menToHold_24 rfl (lv_at hl 3 rfl) ?_
          refine he_iald hx hb hK hP 3 rfl (j) rfl (by first | assumption | decide | omega) (by first | decide | assumption) (nI (ef j)) (hPf j (by omega)) dX1_menToHold_25 ?_
          refine lv_aload_n hx hb dX1_menToHold_26 rfl (lv_at hl 0 rfl) ?_
          refine va_get (v := .ref v2) (T := TX1) (N := 5) hx hb hts inX1 hown hK hP 0 rfl rfl 1 (by decide) f15 (fun _ h9 => h9) rfl dX1_menToHold_27 ?_
          refine lv_iload_n hx hb dX1_menToHold_30 rfl (lv_at hl 3 rfl) ?_
          refine he_iald hx hb hK hP 2 rfl (j) rfl (by first | assumption | decide | omega) (by first | decide | assumption) (nI (Wr j / 25)) (hHe j (by omega) hbt) dX1_menToHold_31 ?_
          refine lv_isub hx hb dX1_menToHold_32 ?_
          refine va_mmax hx hb (by rw [hml]; exact hl.1.symm) hown ml51 msmax mi mcmax (by decide) (Nat.le_of_ble_eq_true rfl) (Nat.le_of_ble_eq_true rfl) (Nat.le_of_ble_eq_true rfl) dX1_menToHold_33 ?_
          refine he_top (nI (ef j - Wr j / 25)) (mx_sub (ef j) (by have := hef j; omega) (Wr j / 25) (by have := hW9 j; omega)) ?_
          refine lv_iadd hx hb dX1_menToHold_36 ?_
          refine he_top (nI (ac + (ef j - Wr j / 25))) (nI_add ac (ef j - Wr j / 25)) ?_
          refine lv_istore_n (lv' := [(2, .int (nI (ac + (ef j - Wr j / 25)))), (0, .ref v0), (1, .int (nI se)), (3, .int (nI j))]) hx hb dX1_menToHold_37 rfl hl (by decide) rfl (fun ls hl => ?_)
          refine lv_iinc (v := nI (j + 1)) (lv' := [(3, .int (nI (j + 1))), (2, .int (nI (ac + (ef j - Wr j / 25)))), (0, .ref v0), (1, .int (nI se))]) hx hb dX1_menToHold_38 hl (k := 3) rfl (nI_1 j) (by decide) rfl (fun ls hl => ?_)
          refine lv_goto (tgt := 4) hx hb dX1_menToHold_41 (by decide) ?_
          exact ih4 (j + 1) (ac + (ef j - Wr j / 25)) (by omega) (by omega) (sP_y hac (if_pos hbt)) _ _ _ hP hD hS (lv_sub hl [2, 3, 1, 0] rfl)
  exact loop4 ((3 - 0) + 1) 0 0 (Nat.lt_succ_self _) (Nat.zero_le _) rfl _ _ _ hP hD hS (lv_sub hl [2, 3, 1, 0] rfl)
set_option maxHeartbeats 4000000 in
set_option maxRecDepth 100000 in
theorem s_X1_mostFelled (l : Launch) (g : he_G) (v0 : Nat) (v1 : Nat) (v2 : Nat) (v3 : Nat) (v : Nat) (dg : Int32) (wo : Nat → Int32) (he_ : Nat → Int32) (pf : Nat → Int32) (Wr : Nat → Nat) (ef : Nat → Nat) (an : Nat) (a : Nat) (ha8 : an < 8) (ha6 : a ≤ 6) (hWH : ∀ k, k < 3 → bt an k = true → wo k = nI (Wr k) ∧ he_ k = nI (Wr k / 25)) (hPf : ∀ k, k < 3 → pf k = nI (ef k)) (hef : ∀ k, ef k ≤ 6) (hW9 : ∀ k, Wr k ≤ 99) : he_I l yX1_mostFelled wsX1_mostFelled 1 23 0 0 g [.ref v0, .int (nI an), .int (nI a)] [(oX1 v0 v1 v2 v3 (nI v) dg), (aI g v1 3 wo), (aI g v2 3 he_), (aI g v3 3 pf)] (fun (r : Int32) (u : Unit) => r = nI (vS Wr an a ef)) (fun (u : Unit) => [(oX1 v0 v1 v2 v3 (nI v) dg), (aI g v1 3 wo), (aI g v2 3 he_), (aI g v3 3 pf)]) := by
  refine he_begin (l := l) (g := g) (y := yX1_mostFelled) (wl := wsX1_mostFelled) (fr := 1) (lo := 23) (mc := 0) (ms := 0) (av := [.ref v0, .int (nI an), .int (nI a)]) (ws := [(oX1 v0 v1 v2 v3 (nI v) dg), (aI g v1 3 wo), (aI g v2 3 he_), (aI g v3 3 pf)]) (cc := cX1_mostFelled) (maxL := 5) (ret := (some .int)) (fun A => va_Qi (fun (r : Int32) (u : Unit) => r = nI (vS Wr an a ef)) (fun u t => he_post g A ((fun (u : Unit) => [(oX1 v0 v1 v2 v3 (nI v) dg), (aI g v1 3 wo), (aI g v2 3 he_), (aI g v3 3 pf)]) u) t) A) (by decide) rfl (Nat.le_of_ble_eq_true rfl) ?_
  intro p e s m args below meth c A ls H locs Q hQ hB
  obtain ⟨hx, hb, hr, hml, hown, hts, hlk, hin, hP, hK, hD, hS, hA, hE, hl⟩ := hB
  have hl : lv_has ls 5 [(0, .ref v0), (1, .int (nI an)), (2, .int (nI a))] := hl
  have ml51 := hts (.methodLink RX1 51 Lib.Math.max.name) (iwoX1_mostFelled (k := 0) rfl)
  have msmax := hts (.static Lib.Math.max.name) (iwoX1_mostFelled (k := 1) rfl)
  have mi := hts (.initialized "java/lang/Math") (iwoX1_mostFelled (k := 2) rfl)
  have mcmax := hts (.code Lib.Math.max.name Lib.Math.max.code 2 (some .int)) (iwoX1_mostFelled (k := 3) rfl)
  refine lv_iconst (v := 0) hx hb dX1_mostFelled_0 (by decide) ?_
  refine lv_istore_n (lv' := [(3, .int 0), (0, .ref v0), (1, .int (nI an)), (2, .int (nI a))]) hx hb dX1_mostFelled_1 rfl hl (by decide) rfl (fun ls hl => ?_)
  refine lv_iconst (v := 0) hx hb dX1_mostFelled_2 (by decide) ?_
  refine lv_istore (lv' := [(4, .int 0), (3, .int 0), (0, .ref v0), (1, .int (nI an)), (2, .int (nI a))]) hx hb dX1_mostFelled_3 hl (by decide) rfl (fun ls hl => ?_)
  have loop5 : ∀ (n9 : Nat) (j : Nat) (mx : Nat), 8 - j < n9 → (j ≤ 8) → (mx = mxF (fun s9 => subB s9 an && decide (nee Wr ef s9 ≤ a)) (wor Wr) j) → ∀ (H : Heap) (locs : List Loc) (ls : Array Slot), va_P g.1 vwCl [(oX1 v0 v1 v2 v3 (nI v) dg), (aI g v1 3 wo), (aI g v2 3 he_), (aI g v3 3 pf)] H → va_D A [(oX1 v0 v1 v2 v3 (nI v) dg), (aI g v1 3 wo), (aI g v2 3 he_), (aI g v3 3 pf)] → va_S A s.heap H locs → lv_has ls 5 [(0, .ref v0), (1, .int (nI an)), (2, .int (nI a)), (3, .int (nI mx)), (4, .int (nI j))] → W p l e (he_room 1 23 0 0) s m args below meth c H locs 0 0 Q (F0 m 5 ls []) := by
    intro n9
    induction n9 with
    | zero => intro j mx hm9; exact absurd hm9 (Nat.not_lt_zero _)
    | succ n9 ih5 =>
      intro j mx hm9 hj hmx H locs ls hP hD hS hl
      refine lv_iload hx hb dX1_mostFelled_5 (lv_at hl 4 rfl) ?_
      refine lv_bipush (v := 8) hx hb dX1_mostFelled_7 (by decide) ?_
      refine lv_icmp_ge (tgt := 48) hx hb dX1_mostFelled_9 (by decide) (fun c_1 => ?_) (fun c_1 => ?_)
      · have k_2 : 8 ≤ j := (he_cle (a := 8) (b := j) (by decide) rfl (by omega) (by omega)).mp c_1
        refine lv_iload_n hx hb dX1_mostFelled_48 rfl (lv_at hl 3 rfl) ?_
        exact he_ri hQ hx hb hr hlk hP hD hS dX1_mostFelled_49 (Nat.le_of_ble_eq_true rfl) (Nat.le_of_ble_eq_true rfl) (()) (rfl) ((congrArg nI (by rw [hmx, show j = 8 by omega]; rfl)))
      · have k_3 : ¬ (8 ≤ j) := fun h9 => c_1 ((he_cle (a := 8) (b := j) (by decide) rfl (by omega) (by omega)).mpr h9)
        refine lv_iload hx hb dX1_mostFelled_12 (lv_at hl 4 rfl) ?_
        refine lv_iload_n hx hb dX1_mostFelled_14 rfl (lv_at hl 1 rfl) ?_
        refine lv_iconst (v := (-1)) hx hb dX1_mostFelled_15 (by decide) ?_
        refine lv_ixor hx hb dX1_mostFelled_16 ?_
        refine lv_iand hx hb dX1_mostFelled_17 ?_
        refine lv_if_ne (tgt := 42) hx hb dX1_mostFelled_18 (by decide) (fun c_4 => ?_) (fun c_4 => ?_)
        · have hsb : ¬ subB j an = true := fun h9 => c_4 ((sb_iff j (by omega) an ha8).mpr h9)
          refine lv_iinc (v := nI (j + 1)) (lv' := [(4, .int (nI (j + 1))), (0, .ref v0), (1, .int (nI an)), (2, .int (nI a)), (3, .int (nI mx))]) hx hb dX1_mostFelled_42 hl (k := 4) rfl (nI_1 j) (by decide) rfl (fun ls hl => ?_)
          refine lv_goto (tgt := 5) hx hb dX1_mostFelled_45 (by decide) ?_
          exact ih5 (j + 1) mx (by omega) (by omega) (mxF_n (P := fun s9 => subB s9 an && decide (nee Wr ef s9 ≤ a)) hmx (pS_n1 hsb)) _ _ _ hP hD hS (lv_sub hl [1, 2, 3, 4, 0] rfl)
        · have hsb : subB j an = true := (sb_iff j (by omega) an ha8).mp c_4
          refine lv_aload_n hx hb dX1_mostFelled_21 rfl (lv_at hl 0 rfl) ?_
          refine lv_iload hx hb dX1_mostFelled_22 (lv_at hl 4 rfl) ?_
          refine he_ci (wc := [(oX1 v0 v1 v2 v3 (nI v) dg), (aI g v1 3 wo), (aI g v2 3 he_), (aI g v3 3 pf)]) (wr := []) (va_runV (As := [.int (nI j)]) (rest := []) ⟨hx, hb, hml, hown, hts⟩ (s_X1_menToFell l g v0 v1 v2 v3 v dg wo he_ pf Wr ef j (by omega) (fun k9 h9 h8 => (hWH k9 h9 (sub_k hsb h9 h8)).2) (by first | assumption | decide | omega) H.size) (cwV 1 hts gX1_mostFelled_X1_menToFell rfl rfl rfl (by decide +kernel) ⟨Nat.le_of_ble_eq_true rfl, Nat.le_of_ble_eq_true rfl⟩) (he_preV (wc := [(oX1 v0 v1 v2 v3 (nI v) dg), (aI g v1 3 wo), (aI g v2 3 he_), (aI g v3 3 pf)]) hK hP hD hS hA hE [0, 1, 2, 3] rfl rfl 0 rfl rfl) rfl rfl hl.1 rfl (lv_room (Nat.le_of_ble_eq_true rfl)) dX1_mostFelled_24 ⟨(Nat.le_of_ble_eq_true rfl), (Nat.le_of_ble_eq_true rfl)⟩) hP hD hS hA [0, 1, 2, 3] [] rfl rfl rfl (by decide) (fun r_5 u_6 H locs h_7 hP hD hS => ?_)
          subst h_7
          have hP : va_P g.1 vwCl [(oX1 v0 v1 v2 v3 (nI v) dg), (aI g v1 3 wo), (aI g v2 3 he_), (aI g v3 3 pf)] H := hP
          have hD : va_D A [(oX1 v0 v1 v2 v3 (nI v) dg), (aI g v1 3 wo), (aI g v2 3 he_), (aI g v3 3 pf)] := hD
          refine lv_iload_n hx hb dX1_mostFelled_27 rfl (lv_at hl 2 rfl) ?_
          have hn9 := nee_le (s := j) hW9 hef
          refine lv_icmp_gt (tgt := 42) hx hb dX1_mostFelled_28 (by decide) (fun c_8 => ?_) (fun c_8 => ?_)
          · have k_9 : a < nee Wr ef j := (he_clt (a := a) (b := nee Wr ef j) rfl rfl (by omega) (by omega)).mp c_8
            refine lv_iinc (v := nI (j + 1)) (lv' := [(4, .int (nI (j + 1))), (0, .ref v0), (1, .int (nI an)), (2, .int (nI a)), (3, .int (nI mx))]) hx hb dX1_mostFelled_42 hl (k := 4) rfl (nI_1 j) (by decide) rfl (fun ls hl => ?_)
            refine lv_goto (tgt := 5) hx hb dX1_mostFelled_45 (by decide) ?_
            exact ih5 (j + 1) mx (by omega) (by omega) (mxF_n (P := fun s9 => subB s9 an && decide (nee Wr ef s9 ≤ a)) hmx (pS_n2 (by omega))) _ _ _ hP hD hS (lv_sub hl [1, 2, 3, 4, 0] rfl)
          · have k_10 : ¬ (a < nee Wr ef j) := fun h9 => c_8 ((he_clt (a := a) (b := nee Wr ef j) rfl rfl (by omega) (by omega)).mpr h9)
            refine lv_iload_n hx hb dX1_mostFelled_31 rfl (lv_at hl 3 rfl) ?_
            refine lv_aload_n hx hb dX1_mostFelled_32 rfl (lv_at hl 0 rfl) ?_
            refine lv_iload hx hb dX1_mostFelled_33 (lv_at hl 4 rfl) ?_
            refine he_ci (wc := [(oX1 v0 v1 v2 v3 (nI v) dg), (aI g v1 3 wo), (aI g v2 3 he_), (aI g v3 3 pf)]) (wr := []) (va_runV (As := [.int (nI j)]) (rest := [.int (nI mx)]) ⟨hx, hb, hml, hown, hts⟩ (s_X1_worthOf l g v0 v1 v2 v3 v dg wo he_ pf Wr j (by omega) (fun k9 h9 h8 => (hWH k9 h9 (sub_k hsb h9 h8)).1) H.size) (cwV 1 hts gX1_mostFelled_X1_worthOf rfl rfl rfl (by decide +kernel) ⟨Nat.le_of_ble_eq_true rfl, Nat.le_of_ble_eq_true rfl⟩) (he_preV (wc := [(oX1 v0 v1 v2 v3 (nI v) dg), (aI g v1 3 wo), (aI g v2 3 he_), (aI g v3 3 pf)]) hK hP hD hS hA hE [0, 1, 2, 3] rfl rfl 0 rfl rfl) rfl rfl hl.1 rfl (lv_room (Nat.le_of_ble_eq_true rfl)) dX1_mostFelled_35 ⟨(Nat.le_of_ble_eq_true rfl), (Nat.le_of_ble_eq_true rfl)⟩) hP hD hS hA [0, 1, 2, 3] [] rfl rfl rfl (by decide) (fun r_11 u_12 H locs h_13 hP hD hS => ?_)
            subst h_13
            have hP : va_P g.1 vwCl [(oX1 v0 v1 v2 v3 (nI v) dg), (aI g v1 3 wo), (aI g v2 3 he_), (aI g v3 3 pf)] H := hP
            have hD : va_D A [(oX1 v0 v1 v2 v3 (nI v) dg), (aI g v1 3 wo), (aI g v2 3 he_), (aI g v3 3 pf)] := hD
            refine va_mmax hx hb (by rw [hml]; exact hl.1.symm) hown ml51 msmax mi mcmax (by decide) (Nat.le_of_ble_eq_true rfl) (Nat.le_of_ble_eq_true rfl) (Nat.le_of_ble_eq_true rfl) dX1_mostFelled_38 ?_
            refine he_top (nI (if mx < wor Wr j then wor Wr j else mx)) (mx_if (by rw [hmx]; have := mx_le (P := fun s9 => subB s9 an && decide (nee Wr ef s9 ≤ a)) (v := wor Wr) (B := 297) j (fun n9 _ _ => wor_le hW9 n9); omega) (by have := wor_le hW9 j; omega)) ?_
            refine lv_istore_n (lv' := [(3, .int (nI (if mx < wor Wr j then wor Wr j else mx))), (0, .ref v0), (1, .int (nI an)), (2, .int (nI a)), (4, .int (nI j))]) hx hb dX1_mostFelled_41 rfl hl (by decide) rfl (fun ls hl => ?_)
            refine lv_iinc (v := nI (j + 1)) (lv' := [(4, .int (nI (j + 1))), (3, .int (nI (if mx < wor Wr j then wor Wr j else mx))), (0, .ref v0), (1, .int (nI an)), (2, .int (nI a))]) hx hb dX1_mostFelled_42 hl (k := 4) rfl (nI_1 j) (by decide) rfl (fun ls hl => ?_)
            refine lv_goto (tgt := 5) hx hb dX1_mostFelled_45 (by decide) ?_
            exact ih5 (j + 1) (if mx < wor Wr j then wor Wr j else mx) (by omega) (by omega) (mxF_y (P := fun s9 => subB s9 an && decide (nee Wr ef s9 ≤ a)) hmx (pS_y hsb (by omega))) _ _ _ hP hD hS (lv_sub hl [2, 3, 4, 1, 0] rfl)
  exact loop5 ((8 - 0) + 1) 0 0 (Nat.lt_succ_self _) (Nat.zero_le _) rfl _ _ _ hP hD hS (lv_sub hl [2, 3, 4, 1, 0] rfl)
set_option maxHeartbeats 4000000 in
set_option maxRecDepth 100000 in
theorem s_X1_leastFelled (l : Launch) (g : he_G) (v0 : Nat) (v1 : Nat) (v2 : Nat) (v3 : Nat) (v : Nat) (dg : Int32) (wo : Nat → Int32) (he_ : Nat → Int32) (pf : Nat → Int32) (Wr : Nat → Nat) (ef : Nat → Nat) (a : Nat) (hv3 : v ≤ 3) (ha6 : a ≤ 6) (hWH : ∀ k, k < 3 → bt (allN v) k = true → wo k = nI (Wr k) ∧ he_ k = nI (Wr k / 25)) (hPf : ∀ k, k < 3 → pf k = nI (ef k)) (hef : ∀ k, ef k ≤ 6) (hW9 : ∀ k, Wr k ≤ 99) : he_I l yX1_leastFelled wsX1_leastFelled 2 37 0 0 g [.ref v0, .int (nI a)] [(oX1 v0 v1 v2 v3 (nI v) dg), (aI g v1 3 wo), (aI g v2 3 he_), (aI g v3 3 pf)] (fun (r : Int32) (u : Unit) => r = nI (uS Wr (allN v) a ef)) (fun (u : Unit) => [(oX1 v0 v1 v2 v3 (nI v) dg), (aI g v1 3 wo), (aI g v2 3 he_), (aI g v3 3 pf)]) := by
  refine he_begin (l := l) (g := g) (y := yX1_leastFelled) (wl := wsX1_leastFelled) (fr := 2) (lo := 37) (mc := 0) (ms := 0) (av := [.ref v0, .int (nI a)]) (ws := [(oX1 v0 v1 v2 v3 (nI v) dg), (aI g v1 3 wo), (aI g v2 3 he_), (aI g v3 3 pf)]) (cc := cX1_leastFelled) (maxL := 4) (ret := (some .int)) (fun A => va_Qi (fun (r : Int32) (u : Unit) => r = nI (uS Wr (allN v) a ef)) (fun u t => he_post g A ((fun (u : Unit) => [(oX1 v0 v1 v2 v3 (nI v) dg), (aI g v1 3 wo), (aI g v2 3 he_), (aI g v3 3 pf)]) u) t) A) (by decide) rfl (Nat.le_of_ble_eq_true rfl) ?_
  intro p e s m args below meth c A ls H locs Q hQ hB
  obtain ⟨hx, hb, hr, hml, hown, hts, hlk, hin, hP, hK, hD, hS, hA, hE, hl⟩ := hB
  have hl : lv_has ls 4 [(0, .ref v0), (1, .int (nI a))] := hl
  have h79 := all_7 hv3
  have ml51 := hts (.methodLink RX1 51 Lib.Math.max.name) (iwoX1_leastFelled (k := 0) rfl)
  have msmax := hts (.static Lib.Math.max.name) (iwoX1_leastFelled (k := 1) rfl)
  have mi := hts (.initialized "java/lang/Math") (iwoX1_leastFelled (k := 2) rfl)
  have mcmax := hts (.code Lib.Math.max.name Lib.Math.max.code 2 (some .int)) (by decide +kernel)
  refine lv_iconst (v := 0) hx hb dX1_leastFelled_0 (by decide) ?_
  refine lv_istore_n (lv' := [(2, .int 0), (0, .ref v0), (1, .int (nI a))]) hx hb dX1_leastFelled_1 rfl hl (by decide) rfl (fun ls hl => ?_)
  refine lv_iconst (v := 0) hx hb dX1_leastFelled_2 (by decide) ?_
  refine lv_istore_n (lv' := [(3, .int 0), (2, .int 0), (0, .ref v0), (1, .int (nI a))]) hx hb dX1_leastFelled_3 rfl hl (by decide) rfl (fun ls hl => ?_)
  have loop4 : ∀ (n9 : Nat) (j : Nat) (mx : Nat), 8 - j < n9 → (j ≤ 8) → (j ≤ allN v + 1) → (mx = mxF (fun s9 => subB s9 (allN v) && decide (hol Wr ef s9 ≤ a)) (wor Wr) j) → ∀ (H : Heap) (locs : List Loc) (ls : Array Slot), va_P g.1 vwCl [(oX1 v0 v1 v2 v3 (nI v) dg), (aI g v1 3 wo), (aI g v2 3 he_), (aI g v3 3 pf)] H → va_D A [(oX1 v0 v1 v2 v3 (nI v) dg), (aI g v1 3 wo), (aI g v2 3 he_), (aI g v3 3 pf)] → va_S A s.heap H locs → lv_has ls 4 [(0, .ref v0), (1, .int (nI a)), (2, .int (nI mx)), (3, .int (nI j))] → W p l e (he_room 2 37 0 0) s m args below meth c H locs 0 0 Q (F0 m 4 ls []) := by
    intro n9
    induction n9 with
    | zero => intro j mx hm9; exact absurd hm9 (Nat.not_lt_zero _)
    | succ n9 ih4 =>
      intro j mx hm9 hj hj2 hmx H locs ls hP hD hS hl
      refine lv_iload_n hx hb dX1_leastFelled_4 rfl (lv_at hl 3 rfl) ?_
      refine lv_aload_n hx hb dX1_leastFelled_5 rfl (lv_at hl 0 rfl) ?_
      refine he_ci (wc := [(oX1 v0 v1 v2 v3 (nI v) dg), (aI g v1 3 wo), (aI g v2 3 he_), (aI g v3 3 pf)]) (wr := []) (va_runV (As := []) (rest := [.int (nI j)]) ⟨hx, hb, hml, hown, hts⟩ (g_X1_all l g v0 v1 v2 v3 v dg wo he_ pf (by first | assumption | decide | omega) H.size) (cwV 0 hts gX1_leastFelled_X1_all rfl rfl rfl (by decide +kernel) ⟨Nat.le_of_ble_eq_true rfl, Nat.le_of_ble_eq_true rfl⟩) (he_preV (wc := [(oX1 v0 v1 v2 v3 (nI v) dg), (aI g v1 3 wo), (aI g v2 3 he_), (aI g v3 3 pf)]) hK hP hD hS hA hE [0, 1, 2, 3] rfl rfl 0 rfl rfl) rfl rfl hl.1 rfl (lv_room (Nat.le_of_ble_eq_true rfl)) dX1_leastFelled_6 ⟨(Nat.le_of_ble_eq_true rfl), (Nat.le_of_ble_eq_true rfl)⟩) hP hD hS hA [0, 1, 2, 3] [] rfl rfl rfl (by decide) (fun r_1 u_2 H locs h_3 hP hD hS => ?_)
      subst h_3
      have hP : va_P g.1 vwCl [(oX1 v0 v1 v2 v3 (nI v) dg), (aI g v1 3 wo), (aI g v2 3 he_), (aI g v3 3 pf)] H := hP
      have hD : va_D A [(oX1 v0 v1 v2 v3 (nI v) dg), (aI g v1 3 wo), (aI g v2 3 he_), (aI g v3 3 pf)] := hD
      refine lv_icmp_gt (tgt := 37) hx hb dX1_leastFelled_9 (by decide) (fun c_4 => ?_) (fun c_4 => ?_)
      · have k_5 : allN v < j := (he_clt (a := allN v) (b := j) rfl rfl (by omega) (by omega)).mp c_4
        refine lv_aload_n hx hb dX1_leastFelled_37 rfl (lv_at hl 0 rfl) ?_
        refine lv_aload_n hx hb dX1_leastFelled_38 rfl (lv_at hl 0 rfl) ?_
        refine he_ci (wc := [(oX1 v0 v1 v2 v3 (nI v) dg), (aI g v1 3 wo), (aI g v2 3 he_), (aI g v3 3 pf)]) (wr := []) (va_runV (As := []) (rest := [.ref v0]) ⟨hx, hb, hml, hown, hts⟩ (g_X1_all l g v0 v1 v2 v3 v dg wo he_ pf (by first | assumption | decide | omega) H.size) (cwV 0 hts gX1_leastFelled_X1_all rfl rfl rfl (by decide +kernel) ⟨Nat.le_of_ble_eq_true rfl, Nat.le_of_ble_eq_true rfl⟩) (he_preV (wc := [(oX1 v0 v1 v2 v3 (nI v) dg), (aI g v1 3 wo), (aI g v2 3 he_), (aI g v3 3 pf)]) hK hP hD hS hA hE [0, 1, 2, 3] rfl rfl 0 rfl rfl) rfl rfl hl.1 rfl (lv_room (Nat.le_of_ble_eq_true rfl)) dX1_leastFelled_39 ⟨(Nat.le_of_ble_eq_true rfl), (Nat.le_of_ble_eq_true rfl)⟩) hP hD hS hA [0, 1, 2, 3] [] rfl rfl rfl (by decide) (fun r_6 u_7 H locs h_8 hP hD hS => ?_)
        subst h_8
        have hP : va_P g.1 vwCl [(oX1 v0 v1 v2 v3 (nI v) dg), (aI g v1 3 wo), (aI g v2 3 he_), (aI g v3 3 pf)] H := hP
        have hD : va_D A [(oX1 v0 v1 v2 v3 (nI v) dg), (aI g v1 3 wo), (aI g v2 3 he_), (aI g v3 3 pf)] := hD
        refine he_ci (wc := [(oX1 v0 v1 v2 v3 (nI v) dg), (aI g v1 3 wo), (aI g v2 3 he_), (aI g v3 3 pf)]) (wr := []) (va_runV (As := [.int (nI (allN v))]) (rest := []) ⟨hx, hb, hml, hown, hts⟩ (s_X1_worthOf l g v0 v1 v2 v3 v dg wo he_ pf Wr (allN v) (by omega) (fun k9 h9 h8 => (hWH k9 h9 h8).1) H.size) (cwV 1 hts gX1_leastFelled_X1_worthOf rfl rfl rfl (by decide +kernel) ⟨Nat.le_of_ble_eq_true rfl, Nat.le_of_ble_eq_true rfl⟩) (he_preV (wc := [(oX1 v0 v1 v2 v3 (nI v) dg), (aI g v1 3 wo), (aI g v2 3 he_), (aI g v3 3 pf)]) hK hP hD hS hA hE [0, 1, 2, 3] rfl rfl 0 rfl rfl) rfl rfl hl.1 rfl (lv_room (Nat.le_of_ble_eq_true rfl)) dX1_leastFelled_42 ⟨(Nat.le_of_ble_eq_true rfl), (Nat.le_of_ble_eq_true rfl)⟩) hP hD hS hA [0, 1, 2, 3] [] rfl rfl rfl (by decide) (fun r_9 u_10 H locs h_11 hP hD hS => ?_)
        subst h_11
        have hP : va_P g.1 vwCl [(oX1 v0 v1 v2 v3 (nI v) dg), (aI g v1 3 wo), (aI g v2 3 he_), (aI g v3 3 pf)] H := hP
        have hD : va_D A [(oX1 v0 v1 v2 v3 (nI v) dg), (aI g v1 3 wo), (aI g v2 3 he_), (aI g v3 3 pf)] := hD
        refine lv_iload_n hx hb dX1_leastFelled_45 rfl (lv_at hl 2 rfl) ?_
        refine lv_isub hx hb dX1_leastFelled_46 ?_
        refine he_top (nI (wor Wr (allN v) - mx)) (pk_sub (by rw [hmx]; exact mx_le j (fun n9 _ h9 => wor_sub (Bool.and_eq_true _ _ ▸ h9).1))) ?_
        exact he_ri hQ hx hb hr hlk hP hD hS dX1_leastFelled_47 (Nat.le_of_ble_eq_true rfl) (Nat.le_of_ble_eq_true rfl) (()) (rfl) ((congrArg nI (by show wor Wr (allN v) - mx = wor Wr (allN v) - mxF (fun s9 => subB s9 (allN v) && decide (hol Wr ef s9 ≤ a)) (wor Wr) 8; rw [hmx, show j = allN v + 1 by omega]; have h9 := mxF_ext (P := (fun s9 => subB s9 (allN v) && decide (hol Wr ef s9 ≤ a))) (v := wor Wr) (n := allN v + 1) (8 - (allN v + 1)) (fun i h1 h2 => fun h3 => by have h4 := sub_beh v hv3 i (by omega) (by omega); rw [h4] at h3; exact absurd h3 (by simp)); rw [show allN v + 1 + (8 - (allN v + 1)) = 8 by omega] at h9; rw [h9])))
      · have k_12 : ¬ (allN v < j) := fun h9 => c_4 ((he_clt (a := allN v) (b := j) rfl rfl (by omega) (by omega)).mpr h9)
        have hsb : subB j (allN v) = true := sub_all v hv3 j (by omega)
        refine lv_aload_n hx hb dX1_leastFelled_12 rfl (lv_at hl 0 rfl) ?_
        refine lv_iload_n hx hb dX1_leastFelled_13 rfl (lv_at hl 3 rfl) ?_
        refine he_ci (wc := [(oX1 v0 v1 v2 v3 (nI v) dg), (aI g v1 3 wo), (aI g v2 3 he_), (aI g v3 3 pf)]) (wr := []) (va_runV (As := [.int (nI j)]) (rest := []) ⟨hx, hb, hml, hown, hts⟩ (s_X1_menToHold l g v0 v1 v2 v3 v dg wo he_ pf Wr ef j (by omega) (fun k9 h9 h8 => (hWH k9 h9 (sub_k hsb h9 h8)).2) (by first | assumption | decide | omega) (by first | assumption | decide | omega) (by first | assumption | decide | omega) H.size) (cwV 1 hts gX1_leastFelled_X1_menToHold rfl rfl rfl (by decide +kernel) ⟨Nat.le_of_ble_eq_true rfl, Nat.le_of_ble_eq_true rfl⟩) (he_preV (wc := [(oX1 v0 v1 v2 v3 (nI v) dg), (aI g v1 3 wo), (aI g v2 3 he_), (aI g v3 3 pf)]) hK hP hD hS hA hE [0, 1, 2, 3] rfl rfl 0 rfl rfl) rfl rfl hl.1 rfl (lv_room (Nat.le_of_ble_eq_true rfl)) dX1_leastFelled_14 ⟨(Nat.le_of_ble_eq_true rfl), (Nat.le_of_ble_eq_true rfl)⟩) hP hD hS hA [0, 1, 2, 3] [] rfl rfl rfl (by decide) (fun r_13 u_14 H locs h_15 hP hD hS => ?_)
        subst h_15
        have hP : va_P g.1 vwCl [(oX1 v0 v1 v2 v3 (nI v) dg), (aI g v1 3 wo), (aI g v2 3 he_), (aI g v3 3 pf)] H := hP
        have hD : va_D A [(oX1 v0 v1 v2 v3 (nI v) dg), (aI g v1 3 wo), (aI g v2 3 he_), (aI g v3 3 pf)] := hD
        refine lv_iload_n hx hb dX1_leastFelled_17 rfl (lv_at hl 1 rfl) ?_
        have hn9 := hol_le (Wr := Wr) (s := j) hef
        refine lv_icmp_gt (tgt := 31) hx hb dX1_leastFelled_18 (by decide) (fun c_16 => ?_) (fun c_16 => ?_)
        · have k_17 : a < hol Wr ef j := (he_clt (a := a) (b := hol Wr ef j) rfl rfl (by omega) (by omega)).mp c_16
          refine lv_iinc (v := nI (j + 1)) (lv' := [(3, .int (nI (j + 1))), (0, .ref v0), (1, .int (nI a)), (2, .int (nI mx))]) hx hb dX1_leastFelled_31 hl (k := 3) rfl (nI_1 j) (by decide) rfl (fun ls hl => ?_)
          refine lv_goto (tgt := 4) hx hb dX1_leastFelled_34 (by decide) ?_
          exact ih4 (j + 1) mx (by omega) (by omega) (by omega) (mxF_n (P := (fun s9 => subB s9 (allN v) && decide (hol Wr ef s9 ≤ a))) hmx (pS_n2 (by omega))) _ _ _ hP hD hS (lv_sub hl [1, 2, 3, 0] rfl)
        · have k_18 : ¬ (a < hol Wr ef j) := fun h9 => c_16 ((he_clt (a := a) (b := hol Wr ef j) rfl rfl (by omega) (by omega)).mpr h9)
          refine lv_iload_n hx hb dX1_leastFelled_21 rfl (lv_at hl 2 rfl) ?_
          refine lv_aload_n hx hb dX1_leastFelled_22 rfl (lv_at hl 0 rfl) ?_
          refine lv_iload_n hx hb dX1_leastFelled_23 rfl (lv_at hl 3 rfl) ?_
          refine he_ci (wc := [(oX1 v0 v1 v2 v3 (nI v) dg), (aI g v1 3 wo), (aI g v2 3 he_), (aI g v3 3 pf)]) (wr := []) (va_runV (As := [.int (nI j)]) (rest := [.int (nI mx)]) ⟨hx, hb, hml, hown, hts⟩ (s_X1_worthOf l g v0 v1 v2 v3 v dg wo he_ pf Wr j (by omega) (fun k9 h9 h8 => (hWH k9 h9 (sub_k hsb h9 h8)).1) H.size) (cwV 1 hts gX1_leastFelled_X1_worthOf rfl rfl rfl (by decide +kernel) ⟨Nat.le_of_ble_eq_true rfl, Nat.le_of_ble_eq_true rfl⟩) (he_preV (wc := [(oX1 v0 v1 v2 v3 (nI v) dg), (aI g v1 3 wo), (aI g v2 3 he_), (aI g v3 3 pf)]) hK hP hD hS hA hE [0, 1, 2, 3] rfl rfl 0 rfl rfl) rfl rfl hl.1 rfl (lv_room (Nat.le_of_ble_eq_true rfl)) dX1_leastFelled_24 ⟨(Nat.le_of_ble_eq_true rfl), (Nat.le_of_ble_eq_true rfl)⟩) hP hD hS hA [0, 1, 2, 3] [] rfl rfl rfl (by decide) (fun r_19 u_20 H locs h_21 hP hD hS => ?_)
          subst h_21
          have hP : va_P g.1 vwCl [(oX1 v0 v1 v2 v3 (nI v) dg), (aI g v1 3 wo), (aI g v2 3 he_), (aI g v3 3 pf)] H := hP
          have hD : va_D A [(oX1 v0 v1 v2 v3 (nI v) dg), (aI g v1 3 wo), (aI g v2 3 he_), (aI g v3 3 pf)] := hD
          refine va_mmax hx hb (by rw [hml]; exact hl.1.symm) hown ml51 msmax mi mcmax (by decide) (Nat.le_of_ble_eq_true rfl) (Nat.le_of_ble_eq_true rfl) (Nat.le_of_ble_eq_true rfl) dX1_leastFelled_27 ?_
          refine he_top (nI (if mx < wor Wr j then wor Wr j else mx)) (mx_if (by rw [hmx]; have := mx_le (P := (fun s9 => subB s9 (allN v) && decide (hol Wr ef s9 ≤ a))) (v := wor Wr) (B := 297) j (fun n9 _ _ => wor_le hW9 n9); omega) (by have := wor_le hW9 j; omega)) ?_
          refine lv_istore_n (lv' := [(2, .int (nI (if mx < wor Wr j then wor Wr j else mx))), (0, .ref v0), (1, .int (nI a)), (3, .int (nI j))]) hx hb dX1_leastFelled_30 rfl hl (by decide) rfl (fun ls hl => ?_)
          refine lv_iinc (v := nI (j + 1)) (lv' := [(3, .int (nI (j + 1))), (2, .int (nI (if mx < wor Wr j then wor Wr j else mx))), (0, .ref v0), (1, .int (nI a))]) hx hb dX1_leastFelled_31 hl (k := 3) rfl (nI_1 j) (by decide) rfl (fun ls hl => ?_)
          refine lv_goto (tgt := 4) hx hb dX1_leastFelled_34 (by decide) ?_
          exact ih4 (j + 1) (if mx < wor Wr j then wor Wr j else mx) (by omega) (by omega) (by omega) (mxF_y (P := (fun s9 => subB s9 (allN v) && decide (hol Wr ef s9 ≤ a))) hmx (pS_y hsb (by omega))) _ _ _ hP hD hS (lv_sub hl [2, 3, 1, 0] rfl)
  exact loop4 ((8 - 0) + 1) 0 0 (Nat.lt_succ_self _) (Nat.zero_le _) (Nat.zero_le _) rfl _ _ _ hP hD hS (lv_sub hl [2, 3, 1, 0] rfl)
set_option maxHeartbeats 4000000 in
set_option maxRecDepth 100000 in
theorem s_X1_place (l : Launch) (g : he_G) (v0 : Nat) (v1 : Nat) (v2 : Nat) (v3 : Nat) (v : Nat) (dg : Int32) (wo : Nat → Int32) (he_ : Nat → Int32) (pf : Nat → Int32) (ef : Nat → Nat) (an : Nat) (x : Nat) (y : Nat) (z : Nat) (ha8 : an < 8) (he0 : ef 0 = x) (he1 : ef 1 = y) (he2 : ef 2 = z) (hef : ∀ k, ef k ≤ 6) : he_I l yX1_place wsX1_place 0 0 0 0 g [.ref v0, .int (nI an), .int (nI x), .int (nI y), .int (nI z)] [(oX1 v0 v1 v2 v3 (nI v) dg), (aI g v1 3 wo), (aI g v2 3 he_), (aI g v3 3 pf)] (fun (r : Int32) (u : Nat → Int32) => r = plI an ef ∧ (∀ k, k < 3 → u k = nI (ef k))) (fun (u : Nat → Int32) => [(oX1 v0 v1 v2 v3 (nI v) dg), (aI g v1 3 wo), (aI g v2 3 he_), (aI g v3 3 u)]) := by
  refine he_begin (l := l) (g := g) (y := yX1_place) (wl := wsX1_place) (fr := 0) (lo := 0) (mc := 0) (ms := 0) (av := [.ref v0, .int (nI an), .int (nI x), .int (nI y), .int (nI z)]) (ws := [(oX1 v0 v1 v2 v3 (nI v) dg), (aI g v1 3 wo), (aI g v2 3 he_), (aI g v3 3 pf)]) (cc := cX1_place) (maxL := 6) (ret := (some .boolean)) (fun A => va_Qi (fun (r : Int32) (u : Nat → Int32) => r = plI an ef ∧ (∀ k, k < 3 → u k = nI (ef k))) (fun u t => he_post g A ((fun (u : Nat → Int32) => [(oX1 v0 v1 v2 v3 (nI v) dg), (aI g v1 3 wo), (aI g v2 3 he_), (aI g v3 3 u)]) u) t) A) (by decide) rfl (Nat.le_of_ble_eq_true rfl) ?_
  intro p e s m args below meth c A ls H locs Q hQ hB
  obtain ⟨hx, hb, hr, hml, hown, hts, hlk, hin, hP, hK, hD, hS, hA, hE, hl⟩ := hB
  have hl : lv_has ls 6 [(0, .ref v0), (1, .int (nI an)), (2, .int (nI x)), (3, .int (nI y)), (4, .int (nI z))] := hl
  have f18 := hts (.fieldLink RX1 18 "HiredEnemy$Battle" "put" "[I") (iwoX1_place (k := 0) rfl)
  have inX1 : ∀ w ∈ wsX10, w ∈ wsX1_place := innX1_place_X1
  refine lv_aload_n hx hb dX1_place_0 rfl (lv_at hl 0 rfl) ?_
  refine va_get (v := .ref v3) (T := TX1) (N := 5) hx hb hts inX1 hown hK hP 0 rfl rfl 2 (by decide) f18 (fun _ h9 => h9) rfl dX1_place_1 ?_
  refine lv_iconst (v := 0) hx hb dX1_place_4 (by decide) ?_
  refine lv_iload_n hx hb dX1_place_5 rfl (lv_at hl 2 rfl) ?_
  refine he_iast hx hb hK hP hD hS 3 rfl (0) (by decide) (by decide) (by first | decide | assumption) dX1_place_6 (fun H locs hP hD hS => ?_)
  have hP : va_P g.1 vwCl [(oX1 v0 v1 v2 v3 (nI v) dg), (aI g v1 3 wo), (aI g v2 3 he_), (aI g v3 3 (upd pf 0 (nI x)))] H := hP
  have hD : va_D A [(oX1 v0 v1 v2 v3 (nI v) dg), (aI g v1 3 wo), (aI g v2 3 he_), (aI g v3 3 (upd pf 0 (nI x)))] := hD
  refine lv_aload_n hx hb dX1_place_7 rfl (lv_at hl 0 rfl) ?_
  refine va_get (v := .ref v3) (T := TX1) (N := 5) hx hb hts inX1 hown hK hP 0 rfl rfl 2 (by decide) f18 (fun _ h9 => h9) rfl dX1_place_8 ?_
  refine lv_iconst (v := 1) hx hb dX1_place_11 (by decide) ?_
  refine lv_iload_n hx hb dX1_place_12 rfl (lv_at hl 3 rfl) ?_
  refine he_iast hx hb hK hP hD hS 3 rfl (1) (by decide) (by decide) (by first | decide | assumption) dX1_place_13 (fun H locs hP hD hS => ?_)
  have hP : va_P g.1 vwCl [(oX1 v0 v1 v2 v3 (nI v) dg), (aI g v1 3 wo), (aI g v2 3 he_), (aI g v3 3 (upd (upd pf 0 (nI x)) 1 (nI y)))] H := hP
  have hD : va_D A [(oX1 v0 v1 v2 v3 (nI v) dg), (aI g v1 3 wo), (aI g v2 3 he_), (aI g v3 3 (upd (upd pf 0 (nI x)) 1 (nI y)))] := hD
  refine lv_aload_n hx hb dX1_place_14 rfl (lv_at hl 0 rfl) ?_
  refine va_get (v := .ref v3) (T := TX1) (N := 5) hx hb hts inX1 hown hK hP 0 rfl rfl 2 (by decide) f18 (fun _ h9 => h9) rfl dX1_place_15 ?_
  refine lv_iconst (v := 2) hx hb dX1_place_18 (by decide) ?_
  refine lv_iload hx hb dX1_place_19 (lv_at hl 4 rfl) ?_
  refine he_iast hx hb hK hP hD hS 3 rfl (2) (by decide) (by decide) (by first | decide | assumption) dX1_place_21 (fun H locs hP hD hS => ?_)
  have hP : va_P g.1 vwCl [(oX1 v0 v1 v2 v3 (nI v) dg), (aI g v1 3 wo), (aI g v2 3 he_), (aI g v3 3 (upd (upd (upd pf 0 (nI x)) 1 (nI y)) 2 (nI z)))] H := hP
  have hD : va_D A [(oX1 v0 v1 v2 v3 (nI v) dg), (aI g v1 3 wo), (aI g v2 3 he_), (aI g v3 3 (upd (upd (upd pf 0 (nI x)) 1 (nI y)) 2 (nI z)))] := hD
  have hP : va_P g.1 vwCl [(oX1 v0 v1 v2 v3 (nI v) dg), (aI g v1 3 wo), (aI g v2 3 he_), (aI g v3 3 (pt3 pf x y z))] H := hP
  have hD : va_D A [(oX1 v0 v1 v2 v3 (nI v) dg), (aI g v1 3 wo), (aI g v2 3 he_), (aI g v3 3 (pt3 pf x y z))] := hD
  refine lv_iconst (v := 0) hx hb dX1_place_22 (by decide) ?_
  refine lv_istore (lv' := [(5, .int 0), (0, .ref v0), (1, .int (nI an)), (2, .int (nI x)), (3, .int (nI y)), (4, .int (nI z))]) hx hb dX1_place_23 hl (by decide) rfl (fun ls hl => ?_)
  have loop25 : ∀ (n9 : Nat) (j : Nat), 3 - j < n9 → (j ≤ 3) → (∀ k, k < j → bt an k = true ∨ ef k = 0) → ∀ (H : Heap) (locs : List Loc) (ls : Array Slot), va_P g.1 vwCl [(oX1 v0 v1 v2 v3 (nI v) dg), (aI g v1 3 wo), (aI g v2 3 he_), (aI g v3 3 (pt3 pf x y z))] H → va_D A [(oX1 v0 v1 v2 v3 (nI v) dg), (aI g v1 3 wo), (aI g v2 3 he_), (aI g v3 3 (pt3 pf x y z))] → va_S A s.heap H locs → lv_has ls 6 [(0, .ref v0), (1, .int (nI an)), (5, .int (nI j))] → W p l e (he_room 0 0 0 0) s m args below meth c H locs 0 0 Q (F0 m 25 ls []) := by
    intro n9
    induction n9 with
    | zero => intro j hm9; exact absurd hm9 (Nat.not_lt_zero _)
    | succ n9 ih25 =>
      intro j hm9 hj hpl H locs ls hP hD hS hl
      refine lv_iload hx hb dX1_place_25 (lv_at hl 2 rfl) ?_
      refine lv_iconst (v := 3) hx hb dX1_place_27 (by decide) ?_
      refine lv_icmp_ge (tgt := 58) hx hb dX1_place_28 (by decide) (fun c_1 => ?_) (fun c_1 => ?_)
      · have k_2 : 3 ≤ j := (he_cle (a := 3) (b := j) (by decide) rfl (by omega) (by omega)).mp c_1
        refine lv_iconst (v := 1) hx hb dX1_place_58 (by decide) ?_
        exact he_rz hQ hx hb hr hlk hP hD hS dX1_place_59 (Nat.le_of_ble_eq_true rfl) (Nat.le_of_ble_eq_true rfl) rfl (pt3 pf x y z) (rfl) (⟨(pl_t (fun k9 h9 => hpl k9 (by omega))).symm, fun k9 h9 => pt3_e he0 he1 he2 k9 h9⟩)
      · have k_3 : ¬ (3 ≤ j) := fun h9 => c_1 ((he_cle (a := 3) (b := j) (by decide) rfl (by omega) (by omega)).mpr h9)
        refine lv_aload_n hx hb dX1_place_31 rfl (lv_at hl 0 rfl) ?_
        refine va_get (v := .ref v3) (T := TX1) (N := 5) hx hb hts inX1 hown hK hP 0 rfl rfl 2 (by decide) f18 (fun _ h9 => h9) rfl dX1_place_32 ?_
        refine lv_iload hx hb dX1_place_35 (lv_at hl 2 rfl) ?_
        refine he_iald hx hb hK hP 3 rfl (j) rfl (by first | assumption | decide | omega) (by first | decide | assumption) (nI (ef j)) (pt3_e he0 he1 he2 j (by omega)) dX1_place_37 ?_
        have he9 := hef j
        refine lv_if_le (tgt := 52) hx hb dX1_place_38 (by decide) (fun c_4 => ?_) (fun c_4 => ?_)
        · have k_5 : ef j ≤ 0 := (he_cle (a := ef j) (b := 0) rfl (by decide) (by omega) (by omega)).mp c_4
          refine lv_iinc (v := nI (j + 1)) (lv' := [(5, .int (nI (j + 1))), (0, .ref v0), (1, .int (nI an))]) hx hb dX1_place_52 hl (k := 2) rfl (nI_1 j) (by decide) rfl (fun ls hl => ?_)
          refine lv_goto (tgt := 25) hx hb dX1_place_55 (by decide) ?_
          exact ih25 (j + 1) (by omega) (by omega) (pl_s hpl (Or.inr (by omega))) _ _ _ hP hD hS (lv_sub hl [1, 2, 0] rfl)
        · have k_6 : ¬ (ef j ≤ 0) := fun h9 => c_4 ((he_cle (a := ef j) (b := 0) rfl (by decide) (by omega) (by omega)).mpr h9)
          refine lv_iload_n hx hb dX1_place_41 rfl (lv_at hl 1 rfl) ?_
          refine lv_iload hx hb dX1_place_42 (lv_at hl 2 rfl) ?_
          refine lv_ishr hx hb dX1_place_44 ?_
          refine lv_iconst (v := 1) hx hb dX1_place_45 (by decide) ?_
          refine lv_iand hx hb dX1_place_46 ?_
          refine he_top (bI an j) (bI_e an ha8 j (by omega)) ?_
          refine lv_if_ne (tgt := 52) hx hb dX1_place_47 (by decide) (fun c_7 => ?_) (fun c_7 => ?_)
          · have hbt : bt an j = true := bI_n0 c_7
            refine lv_iinc (v := nI (j + 1)) (lv' := [(5, .int (nI (j + 1))), (0, .ref v0), (1, .int (nI an))]) hx hb dX1_place_52 hl (k := 2) rfl (nI_1 j) (by decide) rfl (fun ls hl => ?_)
            refine lv_goto (tgt := 25) hx hb dX1_place_55 (by decide) ?_
            exact ih25 (j + 1) (by omega) (by omega) (pl_s hpl (Or.inl hbt)) _ _ _ hP hD hS (lv_sub hl [1, 2, 0] rfl)
          · have hbt : ¬ bt an j = true := bI_0 c_7
            refine lv_iconst (v := 0) hx hb dX1_place_50 (by decide) ?_
            exact he_rz hQ hx hb hr hlk hP hD hS dX1_place_51 (Nat.le_of_ble_eq_true rfl) (Nat.le_of_ble_eq_true rfl) rfl (pt3 pf x y z) (rfl) (⟨(pl_f (k := j) (by omega) hbt (by omega)).symm, fun k9 h9 => pt3_e he0 he1 he2 k9 h9⟩)
  exact loop25 ((3 - 0) + 1) 0 (Nat.lt_succ_self _) (Nat.zero_le _) (fun k9 h9 => absurd h9 (Nat.not_lt_zero k9)) _ _ _ hP hD hS (lv_sub hl [1, 2, 0] rfl)
set_option maxHeartbeats 4000000 in
set_option maxRecDepth 100000 in
theorem s_X1_digits (l : Launch) (g : he_G) (v0 : Nat) (v1 : Nat) (v2 : Nat) (v3 : Nat) (v : Nat) (dg : Int32) (wo : Nat → Int32) (he_ : Nat → Int32) (pf : Nat → Int32) (ef : Nat → Nat) (hv3 : v ≤ 3) (hPf : ∀ k, k < 3 → pf k = nI (ef k)) : he_I l yX1_digits wsX1_digits 0 0 0 0 g [.ref v0] [(oX1 v0 v1 v2 v3 (nI v) dg), (aI g v1 3 wo), (aI g v2 3 he_), (aI g v3 3 pf)] (fun (r : Int32) (u : Unit) => r = nI (dsN ef v)) (fun (u : Unit) => [(oX1 v0 v1 v2 v3 (nI v) dg), (aI g v1 3 wo), (aI g v2 3 he_), (aI g v3 3 pf)]) := by
  refine he_begin (l := l) (g := g) (y := yX1_digits) (wl := wsX1_digits) (fr := 0) (lo := 0) (mc := 0) (ms := 0) (av := [.ref v0]) (ws := [(oX1 v0 v1 v2 v3 (nI v) dg), (aI g v1 3 wo), (aI g v2 3 he_), (aI g v3 3 pf)]) (cc := cX1_digits) (maxL := 3) (ret := (some .int)) (fun A => va_Qi (fun (r : Int32) (u : Unit) => r = nI (dsN ef v)) (fun u t => he_post g A ((fun (u : Unit) => [(oX1 v0 v1 v2 v3 (nI v) dg), (aI g v1 3 wo), (aI g v2 3 he_), (aI g v3 3 pf)]) u) t) A) (by decide) rfl (Nat.le_of_ble_eq_true rfl) ?_
  intro p e s m args below meth c A ls H locs Q hQ hB
  obtain ⟨hx, hb, hr, hml, hown, hts, hlk, hin, hP, hK, hD, hS, hA, hE, hl⟩ := hB
  have hl : lv_has ls 3 [(0, .ref v0)] := hl
  have f33 := hts (.fieldLink RX1 33 "HiredEnemy$Battle" "walls" "I") (iwoX1_digits (k := 0) rfl)
  have inX1 : ∀ w ∈ wsX10, w ∈ wsX1_digits := innX1_digits_X1
  have f18 := hts (.fieldLink RX1 18 "HiredEnemy$Battle" "put" "[I") (iwoX1_digits (k := 1) rfl)
  refine lv_iconst (v := 0) hx hb dX1_digits_0 (by decide) ?_
  refine lv_istore_n (lv' := [(1, .int 0), (0, .ref v0)]) hx hb dX1_digits_1 rfl hl (by decide) rfl (fun ls hl => ?_)
  refine lv_iconst (v := 0) hx hb dX1_digits_2 (by decide) ?_
  refine lv_istore_n (lv' := [(2, .int 0), (1, .int 0), (0, .ref v0)]) hx hb dX1_digits_3 rfl hl (by decide) rfl (fun ls hl => ?_)
  have loop4 : ∀ (n9 : Nat) (j : Nat) (ac : Nat), v - j < n9 → (j ≤ v) → (ac = dsN ef j) → ∀ (H : Heap) (locs : List Loc) (ls : Array Slot), va_P g.1 vwCl [(oX1 v0 v1 v2 v3 (nI v) dg), (aI g v1 3 wo), (aI g v2 3 he_), (aI g v3 3 pf)] H → va_D A [(oX1 v0 v1 v2 v3 (nI v) dg), (aI g v1 3 wo), (aI g v2 3 he_), (aI g v3 3 pf)] → va_S A s.heap H locs → lv_has ls 3 [(0, .ref v0), (1, .int (nI ac)), (2, .int (nI j))] → W p l e (he_room 0 0 0 0) s m args below meth c H locs 0 0 Q (F0 m 4 ls []) := by
    intro n9
    induction n9 with
    | zero => intro j ac hm9; exact absurd hm9 (Nat.not_lt_zero _)
    | succ n9 ih4 =>
      intro j ac hm9 hj hac H locs ls hP hD hS hl
      refine lv_iload_n hx hb dX1_digits_4 rfl (lv_at hl 2 rfl) ?_
      refine lv_aload_n hx hb dX1_digits_5 rfl (lv_at hl 0 rfl) ?_
      refine va_get (v := .int (nI v)) (T := TX1) (N := 5) hx hb hts inX1 hown hK hP 0 rfl rfl 3 (by decide) f33 (fun _ h9 => h9) rfl dX1_digits_6 ?_
      refine lv_icmp_ge (tgt := 30) hx hb dX1_digits_9 (by decide) (fun c_1 => ?_) (fun c_1 => ?_)
      · have k_2 : v ≤ j := (he_cle (a := v) (b := j) rfl rfl (by omega) (by omega)).mp c_1
        refine lv_iload_n hx hb dX1_digits_30 rfl (lv_at hl 1 rfl) ?_
        exact he_ri hQ hx hb hr hlk hP hD hS dX1_digits_31 (Nat.le_of_ble_eq_true rfl) (Nat.le_of_ble_eq_true rfl) (()) (rfl) ((congrArg nI (by rw [hac, show j = v by omega])))
      · have k_3 : ¬ (v ≤ j) := fun h9 => c_1 ((he_cle (a := v) (b := j) rfl rfl (by omega) (by omega)).mpr h9)
        refine lv_iload_n hx hb dX1_digits_12 rfl (lv_at hl 1 rfl) ?_
        refine lv_bipush (v := 10) hx hb dX1_digits_13 (by decide) ?_
        refine lv_imul hx hb dX1_digits_15 ?_
        refine he_top (nI (ac * 10)) (pk_mul ac 10) ?_
        refine lv_aload_n hx hb dX1_digits_16 rfl (lv_at hl 0 rfl) ?_
        refine va_get (v := .ref v3) (T := TX1) (N := 5) hx hb hts inX1 hown hK hP 0 rfl rfl 2 (by decide) f18 (fun _ h9 => h9) rfl dX1_digits_17 ?_
        refine lv_iload_n hx hb dX1_digits_20 rfl (lv_at hl 2 rfl) ?_
        refine he_iald hx hb hK hP 3 rfl (j) rfl (by first | assumption | decide | omega) (by first | decide | assumption) (nI (ef j)) (hPf j (by omega)) dX1_digits_21 ?_
        refine lv_iadd hx hb dX1_digits_22 ?_
        refine he_top (nI (ac * 10 + ef j)) (nI_add (ac * 10) (ef j)) ?_
        refine lv_istore_n (lv' := [(1, .int (nI (ac * 10 + ef j))), (0, .ref v0), (2, .int (nI j))]) hx hb dX1_digits_23 rfl hl (by decide) rfl (fun ls hl => ?_)
        refine lv_iinc (v := nI (j + 1)) (lv' := [(2, .int (nI (j + 1))), (1, .int (nI (ac * 10 + ef j))), (0, .ref v0)]) hx hb dX1_digits_24 hl (k := 2) rfl (nI_1 j) (by decide) rfl (fun ls hl => ?_)
        refine lv_goto (tgt := 4) hx hb dX1_digits_27 (by decide) ?_
        exact ih4 (j + 1) (ac * 10 + ef j) (by omega) (by omega) (by rw [dsN, hac]) _ _ _ hP hD hS (lv_sub hl [2, 1, 0] rfl)
  exact loop4 ((v - 0) + 1) 0 0 (Nat.lt_succ_self _) (Nat.zero_le _) rfl _ _ _ hP hD hS (lv_sub hl [2, 1, 0] rfl)
set_option maxHeartbeats 4000000 in
set_option maxRecDepth 100000 in
theorem s_X1_safe (l : Launch) (g : he_G) (v0 : Nat) (v1 : Nat) (v2 : Nat) (v3 : Nat) (v : Nat) (dg : Int32) (wo : Nat → Int32) (he_ : Nat → Int32) (pf : Nat → Int32) (Wr : Nat → Nat) (an : Nat) (a : Nat) (d : Nat) (hv3 : v ≤ 3) (ha8 : an < 8) (ha6 : a ≤ 6) (hd6 : d ≤ 6) (hWH : ∀ k, k < 3 → bt an k = true → wo k = nI (Wr k) ∧ he_ k = nI (Wr k / 25)) (hW9 : ∀ k, Wr k ≤ 99) : he_I l yX1_safe wsX1_safe 2 47 0 0 g [.ref v0, .int (nI an), .int (nI a), .int (nI d)] [(oX1 v0 v1 v2 v3 (nI v) dg), (aI g v1 3 wo), (aI g v2 3 he_), (aI g v3 3 pf)] (fun (r : Int32) (u : Int32 × (Nat → Int32)) => r = nI (leN (foC Wr an a d)) ∧ u.1 = nI (dsN (dgt (roN (foC Wr an a d))) v)) (fun (u : Int32 × (Nat → Int32)) => [(oX1 v0 v1 v2 v3 (nI v) u.1), (aI g v1 3 wo), (aI g v2 3 he_), (aI g v3 3 u.2)]) := by
  refine he_begin (l := l) (g := g) (y := yX1_safe) (wl := wsX1_safe) (fr := 2) (lo := 47) (mc := 0) (ms := 0) (av := [.ref v0, .int (nI an), .int (nI a), .int (nI d)]) (ws := [(oX1 v0 v1 v2 v3 (nI v) dg), (aI g v1 3 wo), (aI g v2 3 he_), (aI g v3 3 pf)]) (cc := cX1_safe) (maxL := 8) (ret := (some .int)) (fun A => va_Qi (fun (r : Int32) (u : Int32 × (Nat → Int32)) => r = nI (leN (foC Wr an a d)) ∧ u.1 = nI (dsN (dgt (roN (foC Wr an a d))) v)) (fun u t => he_post g A ((fun (u : Int32 × (Nat → Int32)) => [(oX1 v0 v1 v2 v3 (nI v) u.1), (aI g v1 3 wo), (aI g v2 3 he_), (aI g v3 3 u.2)]) u) t) A) (by decide) rfl (Nat.le_of_ble_eq_true rfl) ?_
  intro p e s m args below meth c A ls H locs Q hQ hB
  obtain ⟨hx, hb, hr, hml, hown, hts, hlk, hin, hP, hK, hD, hS, hA, hE, hl⟩ := hB
  have hl : lv_has ls 8 [(0, .ref v0), (1, .int (nI an)), (2, .int (nI a)), (3, .int (nI d))] := hl
  have f37 := hts (.fieldLink RX1 37 "HiredEnemy$Battle" "safeDigits" "I") (iwoX1_safe (k := 0) rfl)
  have inX1 : ∀ w ∈ wsX10, w ∈ wsX1_safe := innX1_safe_X1
  have ml51 := hts (.methodLink RX1 51 Lib.Math.max.name) (iwoX1_safe (k := 1) rfl)
  have msmax := hts (.static Lib.Math.max.name) (iwoX1_safe (k := 2) rfl)
  have mi := hts (.initialized "java/lang/Math") (iwoX1_safe (k := 3) rfl)
  have mcmax := hts (.code Lib.Math.max.name Lib.Math.max.code 2 (some .int)) (by decide +kernel)
  refine lv_iconst (v := (-1)) hx hb dX1_safe_0 (by decide) ?_
  refine lv_istore (lv' := [(4, .int (-1)), (0, .ref v0), (1, .int (nI an)), (2, .int (nI a)), (3, .int (nI d))]) hx hb dX1_safe_1 hl (by decide) rfl (fun ls hl => ?_)
  refine lv_aload_n hx hb dX1_safe_3 rfl (lv_at hl 1 rfl) ?_
  refine lv_iconst (v := 0) hx hb dX1_safe_4 (by decide) ?_
  refine va_put (v := .int 0) (ty := .int) (T := TX1) (N := 5) hx hb hts inX1 tyX1 tyX1_ok nmX1 hown hK hP hD hS 0 rfl rfl 4 (by decide) f37 (fun _ h9 => h9) rfl (by decide +kernel) rfl rfl (Nat.le_of_ble_eq_true rfl) dX1_safe_5 (fun H locs hP hD hS => ?_)
  have hP : va_P g.1 vwCl [(oX1 v0 v1 v2 v3 (nI v) 0), (aI g v1 3 wo), (aI g v2 3 he_), (aI g v3 3 pf)] H := hP
  have hD : va_D A [(oX1 v0 v1 v2 v3 (nI v) 0), (aI g v1 3 wo), (aI g v2 3 he_), (aI g v3 3 pf)] := hD
  refine lv_iconst (v := 0) hx hb dX1_safe_8 (by decide) ?_
  refine lv_istore (lv' := [(5, .int 0), (4, .int (-1)), (0, .ref v0), (1, .int (nI an)), (2, .int (nI a)), (3, .int (nI d))]) hx hb dX1_safe_9 hl (by decide) rfl (fun ls hl => ?_)
  have loop11 : ∀ (n9 : Nat) (x : Nat) (le : Int32) (dd : Int32) (pu : Nat → Int32), d + 1 - x < n9 → (x ≤ d + 1) → (le = leI (qF (stF (fun r9 => vS Wr an a (dgt r9))) none d an x 0)) → (dd = nI (dsN (dgt (roN (qF (stF (fun r9 => vS Wr an a (dgt r9))) none d an x 0))) v)) → (boO 297 (qF (stF (fun r9 => vS Wr an a (dgt r9))) none d an x 0)) → ∀ (H : Heap) (locs : List Loc) (ls : Array Slot), va_P g.1 vwCl [(oX1 v0 v1 v2 v3 (nI v) dd), (aI g v1 3 wo), (aI g v2 3 he_), (aI g v3 3 pu)] H → va_D A [(oX1 v0 v1 v2 v3 (nI v) dd), (aI g v1 3 wo), (aI g v2 3 he_), (aI g v3 3 pu)] → va_S A s.heap H locs → lv_has ls 8 [(0, .ref v0), (1, .int (nI an)), (2, .int (nI a)), (3, .int (nI d)), (4, .int le), (5, .int (nI x))] → W p l e (he_room 2 47 0 0) s m args below meth c H locs 0 0 Q (F0 m 11 ls []) := by
    intro n9
    induction n9 with
    | zero => intro x le dd pu hm9; exact absurd hm9 (Nat.not_lt_zero _)
    | succ n9 ih11 =>
      intro x le dd pu hm9 hx6 hle hdd hbo H locs ls hP hD hS hl
      refine lv_iload hx hb dX1_safe_11 (lv_at hl 5 rfl) ?_
      refine lv_iload_n hx hb dX1_safe_13 rfl (lv_at hl 3 rfl) ?_
      refine lv_icmp_gt (tgt := 96) hx hb dX1_safe_14 (by decide) (fun c_1 => ?_) (fun c_1 => ?_)
      · have k_2 : d < x := (he_clt (a := d) (b := x) rfl rfl (by omega) (by omega)).mp c_1
        refine lv_iload hx hb dX1_safe_96 (lv_at hl 4 rfl) ?_
        refine lv_iconst (v := 0) hx hb dX1_safe_98 (by decide) ?_
        refine va_mmax hx hb (by rw [hml]; exact hl.1.symm) hown ml51 msmax mi mcmax (by decide) (Nat.le_of_ble_eq_true rfl) (Nat.le_of_ble_eq_true rfl) (Nat.le_of_ble_eq_true rfl) dX1_safe_99 ?_
        refine he_top (nI (leN (qF (stF (fun r9 => vS Wr an a (dgt r9))) none d an x 0))) (by rw [hle]; exact le_top hbo (by decide)) ?_
        exact he_ri hQ hx hb hr hlk hP hD hS dX1_safe_102 (Nat.le_of_ble_eq_true rfl) (Nat.le_of_ble_eq_true rfl) ((dd, pu)) (rfl) (⟨congrArg nI (by (try dsimp only); rw [show x = d + 1 by (try dsimp only); omega]; rfl), (by try dsimp only; exact hdd.trans (by (try dsimp only); rw [show x = d + 1 by (try dsimp only); omega]; rfl))⟩)
      · have k_3 : ¬ (d < x) := fun h9 => c_1 ((he_clt (a := d) (b := x) rfl rfl (by omega) (by omega)).mpr h9)
        refine lv_iconst (v := 0) hx hb dX1_safe_17 (by decide) ?_
        refine lv_istore (lv' := [(6, .int 0), (0, .ref v0), (1, .int (nI an)), (2, .int (nI a)), (3, .int (nI d)), (4, .int le), (5, .int (nI x))]) hx hb dX1_safe_18 hl (by decide) rfl (fun ls hl => ?_)
        have loop20 : ∀ (n9 : Nat) (y : Nat) (le : Int32) (dd : Int32) (pu : Nat → Int32), d - x + 1 - y < n9 → (y ≤ d - x + 1) → (le = leI (qF (stF (fun r9 => vS Wr an a (dgt r9))) none d an x y)) → (dd = nI (dsN (dgt (roN (qF (stF (fun r9 => vS Wr an a (dgt r9))) none d an x y))) v)) → (boO 297 (qF (stF (fun r9 => vS Wr an a (dgt r9))) none d an x y)) → ∀ (H : Heap) (locs : List Loc) (ls : Array Slot), va_P g.1 vwCl [(oX1 v0 v1 v2 v3 (nI v) dd), (aI g v1 3 wo), (aI g v2 3 he_), (aI g v3 3 pu)] H → va_D A [(oX1 v0 v1 v2 v3 (nI v) dd), (aI g v1 3 wo), (aI g v2 3 he_), (aI g v3 3 pu)] → va_S A s.heap H locs → lv_has ls 8 [(0, .ref v0), (1, .int (nI an)), (2, .int (nI a)), (3, .int (nI d)), (4, .int le), (5, .int (nI x)), (6, .int (nI y))] → W p l e (he_room 2 47 0 0) s m args below meth c H locs 0 0 Q (F0 m 20 ls []) := by
          intro n9
          induction n9 with
          | zero => intro y le dd pu hm9; exact absurd hm9 (Nat.not_lt_zero _)
          | succ n9 ih20 =>
            intro y le dd pu hm9 hy6 hle hdd hbo H locs ls hP hD hS hl
            refine lv_iload hx hb dX1_safe_20 (lv_at hl 6 rfl) ?_
            refine lv_iload_n hx hb dX1_safe_22 rfl (lv_at hl 3 rfl) ?_
            refine lv_iload hx hb dX1_safe_23 (lv_at hl 5 rfl) ?_
            refine lv_isub hx hb dX1_safe_25 ?_
            refine he_top (nI (d - x)) (pk_sub (by omega)) ?_
            refine lv_icmp_gt (tgt := 90) hx hb dX1_safe_26 (by decide) (fun c_4 => ?_) (fun c_4 => ?_)
            · have k_5 : d - x < y := (he_clt (a := d - x) (b := y) rfl rfl (by omega) (by omega)).mp c_4
              refine lv_iinc (v := nI (x + 1)) (lv' := [(5, .int (nI (x + 1))), (0, .ref v0), (1, .int (nI an)), (2, .int (nI a)), (3, .int (nI d)), (4, .int le), (6, .int (nI y))]) hx hb dX1_safe_90 hl (k := 5) rfl (nI_1 x) (by decide) rfl (fun ls hl => ?_)
              refine lv_goto (tgt := 11) hx hb dX1_safe_93 (by decide) ?_
              exact ih11 (x + 1) le dd pu (by omega) (by omega) (hle.trans (by rw [qF_x, show y = d + 1 - x by omega])) (hdd.trans (by rw [qF_x, show y = d + 1 - x by omega])) (by rw [qF_x, ← show y = d + 1 - x by omega]; exact hbo) _ _ _ hP hD hS (lv_sub hl [1, 2, 3, 4, 5, 0] rfl)
            · have k_6 : ¬ (d - x < y) := fun h9 => c_4 ((he_clt (a := d - x) (b := y) rfl rfl (by omega) (by omega)).mpr h9)
              refine lv_aload_n hx hb dX1_safe_29 rfl (lv_at hl 0 rfl) ?_
              refine lv_iload_n hx hb dX1_safe_30 rfl (lv_at hl 1 rfl) ?_
              refine lv_iload hx hb dX1_safe_31 (lv_at hl 5 rfl) ?_
              refine lv_iload hx hb dX1_safe_33 (lv_at hl 6 rfl) ?_
              refine lv_iload_n hx hb dX1_safe_35 rfl (lv_at hl 3 rfl) ?_
              refine lv_iload hx hb dX1_safe_36 (lv_at hl 5 rfl) ?_
              refine lv_isub hx hb dX1_safe_38 ?_
              refine he_top (nI (d - x)) (pk_sub (by omega)) ?_
              refine lv_iload hx hb dX1_safe_39 (lv_at hl 6 rfl) ?_
              refine lv_isub hx hb dX1_safe_41 ?_
              refine he_top (nI (d - x - y)) (pk_sub (by omega)) ?_
              refine he_ci (wc := [(oX1 v0 v1 v2 v3 (nI v) dd), (aI g v1 3 wo), (aI g v2 3 he_), (aI g v3 3 pu)]) (wr := []) (va_runV (As := [.int (nI an), .int (nI x), .int (nI y), .int (nI (d - x - y))]) (rest := []) ⟨hx, hb, hml, hown, hts⟩ (s_X1_place l g v0 v1 v2 v3 v dd wo he_ pu (dgt (49 * x + 7 * y + (d - x - y))) an x y (d - x - y) (by first | assumption | decide | omega) (rw3 hd6 (by omega) (by omega)).1 (rw3 hd6 (by omega) (by omega)).2.1 (rw3 hd6 (by omega) (by omega)).2.2.1 (dgt_le (rw3 hd6 (by omega) (by omega)).2.2.2.1) H.size) (cwV 4 hts gX1_safe_X1_place rfl rfl rfl (by decide +kernel) ⟨Nat.le_of_ble_eq_true rfl, Nat.le_of_ble_eq_true rfl⟩) (he_preV (wc := [(oX1 v0 v1 v2 v3 (nI v) dd), (aI g v1 3 wo), (aI g v2 3 he_), (aI g v3 3 pu)]) hK hP hD hS hA hE [0, 1, 2, 3] rfl rfl 0 rfl rfl) rfl rfl hl.1 rfl (lv_room (Nat.le_of_ble_eq_true rfl)) dX1_safe_42 ⟨(Nat.le_of_ble_eq_true rfl), (Nat.le_of_ble_eq_true rfl)⟩) hP hD hS hA [0, 1, 2, 3] [] rfl rfl rfl (by decide) (fun r_7 u_8 H locs h_9 hP hD hS => ?_)
              obtain ⟨uf_10, rfl⟩ : ∃ z, z = u_8 := ⟨_, rfl⟩
              try dsimp only at h_9
              obtain ⟨rfl, hf_11⟩ := h_9
              have hP : va_P g.1 vwCl [(oX1 v0 v1 v2 v3 (nI v) dd), (aI g v1 3 wo), (aI g v2 3 he_), (aI g v3 3 uf_10)] H := hP
              have hD : va_D A [(oX1 v0 v1 v2 v3 (nI v) dd), (aI g v1 3 wo), (aI g v2 3 he_), (aI g v3 3 uf_10)] := hD
              refine lv_if_ne (tgt := 51) hx hb dX1_safe_45 (by decide) (fun c_12 => ?_) (fun c_12 => ?_)
              · have hpu : puB (49 * x + 7 * y + (d - x - y)) d an = true := pu_y (rw3 hd6 (by omega) (by omega)).2.2.2.2 c_12
                refine lv_aload_n hx hb dX1_safe_51 rfl (lv_at hl 0 rfl) ?_
                refine lv_iload_n hx hb dX1_safe_52 rfl (lv_at hl 1 rfl) ?_
                refine lv_iload_n hx hb dX1_safe_53 rfl (lv_at hl 2 rfl) ?_
                refine he_ci (wc := [(oX1 v0 v1 v2 v3 (nI v) dd), (aI g v1 3 wo), (aI g v2 3 he_), (aI g v3 3 uf_10)]) (wr := []) (va_runV (As := [.int (nI an), .int (nI a)]) (rest := []) ⟨hx, hb, hml, hown, hts⟩ (s_X1_mostFelled l g v0 v1 v2 v3 v dd wo he_ uf_10 Wr (dgt (49 * x + 7 * y + (d - x - y))) an a (by first | assumption | decide | omega) (by first | assumption | decide | omega) (by first | assumption | decide | omega) hf_11 (dgt_le (rw3 hd6 (by omega) (by omega)).2.2.2.1) (by first | assumption | decide | omega) H.size) (cwV 2 hts gX1_safe_X1_mostFelled rfl rfl rfl (by decide +kernel) ⟨Nat.le_of_ble_eq_true rfl, Nat.le_of_ble_eq_true rfl⟩) (he_preV (wc := [(oX1 v0 v1 v2 v3 (nI v) dd), (aI g v1 3 wo), (aI g v2 3 he_), (aI g v3 3 uf_10)]) hK hP hD hS hA hE [0, 1, 2, 3] rfl rfl 0 rfl rfl) rfl rfl hl.1 rfl (lv_room (Nat.le_of_ble_eq_true rfl)) dX1_safe_54 ⟨(Nat.le_of_ble_eq_true rfl), (Nat.le_of_ble_eq_true rfl)⟩) hP hD hS hA [0, 1, 2, 3] [] rfl rfl rfl (by decide) (fun r_13 u_14 H locs h_15 hP hD hS => ?_)
                subst h_15
                have hP : va_P g.1 vwCl [(oX1 v0 v1 v2 v3 (nI v) dd), (aI g v1 3 wo), (aI g v2 3 he_), (aI g v3 3 uf_10)] H := hP
                have hD : va_D A [(oX1 v0 v1 v2 v3 (nI v) dd), (aI g v1 3 wo), (aI g v2 3 he_), (aI g v3 3 uf_10)] := hD
                refine lv_istore (lv' := [(7, .int (nI (vS Wr an a (dgt (49 * x + 7 * y + (d - x - y)))))), (0, .ref v0), (1, .int (nI an)), (2, .int (nI a)), (3, .int (nI d)), (4, .int le), (5, .int (nI x)), (6, .int (nI y))]) hx hb dX1_safe_57 hl (by decide) rfl (fun ls hl => ?_)
                have join72 : ∀ (_ : Unit), ((qF (stF (fun r9 => vS Wr an a (dgt r9))) none d an x (y + 1)) = some (vS Wr an a (dgt (49 * x + 7 * y + (d - x - y))), 49 * x + 7 * y + (d - x - y))) → ∀ (H : Heap) (locs : List Loc) (ls : Array Slot), va_P g.1 vwCl [(oX1 v0 v1 v2 v3 (nI v) dd), (aI g v1 3 wo), (aI g v2 3 he_), (aI g v3 3 uf_10)] H → va_D A [(oX1 v0 v1 v2 v3 (nI v) dd), (aI g v1 3 wo), (aI g v2 3 he_), (aI g v3 3 uf_10)] → va_S A s.heap H locs → lv_has ls 8 [(7, .int (nI (vS Wr an a (dgt (49 * x + 7 * y + (d - x - y)))))), (0, .ref v0), (1, .int (nI an)), (2, .int (nI a)), (3, .int (nI d)), (4, .int le), (5, .int (nI x)), (6, .int (nI y))] → W p l e (he_room 2 47 0 0) s m args below meth c H locs 0 0 Q (F0 m 72 ls []) := by
                  intro _ hup H locs ls hP hD hS hl
                  refine lv_iload hx hb dX1_safe_72 (lv_at hl 0 rfl) ?_
                  refine lv_istore (lv' := [(4, .int (nI (vS Wr an a (dgt (49 * x + 7 * y + (d - x - y)))))), (7, .int (nI (vS Wr an a (dgt (49 * x + 7 * y + (d - x - y)))))), (0, .ref v0), (1, .int (nI an)), (2, .int (nI a)), (3, .int (nI d)), (5, .int (nI x)), (6, .int (nI y))]) hx hb dX1_safe_74 hl (by decide) rfl (fun ls hl => ?_)
                  refine lv_aload_n hx hb dX1_safe_76 rfl (lv_at hl 2 rfl) ?_
                  refine lv_aload_n hx hb dX1_safe_77 rfl (lv_at hl 2 rfl) ?_
                  refine he_ci (wc := [(oX1 v0 v1 v2 v3 (nI v) dd), (aI g v1 3 wo), (aI g v2 3 he_), (aI g v3 3 uf_10)]) (wr := []) (va_runV (As := []) (rest := [.ref v0]) ⟨hx, hb, hml, hown, hts⟩ (s_X1_digits l g v0 v1 v2 v3 v dd wo he_ uf_10 (dgt (49 * x + 7 * y + (d - x - y))) (by first | assumption | decide | omega) hf_11 H.size) (cwV 0 hts gX1_safe_X1_digits rfl rfl rfl (by decide +kernel) ⟨Nat.le_of_ble_eq_true rfl, Nat.le_of_ble_eq_true rfl⟩) (he_preV (wc := [(oX1 v0 v1 v2 v3 (nI v) dd), (aI g v1 3 wo), (aI g v2 3 he_), (aI g v3 3 uf_10)]) hK hP hD hS hA hE [0, 1, 2, 3] rfl rfl 0 rfl rfl) rfl rfl hl.1 rfl (lv_room (Nat.le_of_ble_eq_true rfl)) dX1_safe_78 ⟨(Nat.le_of_ble_eq_true rfl), (Nat.le_of_ble_eq_true rfl)⟩) hP hD hS hA [0, 1, 2, 3] [] rfl rfl rfl (by decide) (fun r_16 u_17 H locs h_18 hP hD hS => ?_)
                  subst h_18
                  have hP : va_P g.1 vwCl [(oX1 v0 v1 v2 v3 (nI v) dd), (aI g v1 3 wo), (aI g v2 3 he_), (aI g v3 3 uf_10)] H := hP
                  have hD : va_D A [(oX1 v0 v1 v2 v3 (nI v) dd), (aI g v1 3 wo), (aI g v2 3 he_), (aI g v3 3 uf_10)] := hD
                  refine va_put (v := .int (nI (dsN (dgt (49 * x + 7 * y + (d - x - y))) v))) (ty := .int) (T := TX1) (N := 5) hx hb hts inX1 tyX1 tyX1_ok nmX1 hown hK hP hD hS 0 rfl rfl 4 (by decide) f37 (fun _ h9 => h9) rfl (by decide +kernel) rfl rfl (Nat.le_of_ble_eq_true rfl) dX1_safe_81 (fun H locs hP hD hS => ?_)
                  have hP : va_P g.1 vwCl [(oX1 v0 v1 v2 v3 (nI v) (nI (dsN (dgt (49 * x + 7 * y + (d - x - y))) v))), (aI g v1 3 wo), (aI g v2 3 he_), (aI g v3 3 uf_10)] H := hP
                  have hD : va_D A [(oX1 v0 v1 v2 v3 (nI v) (nI (dsN (dgt (49 * x + 7 * y + (d - x - y))) v))), (aI g v1 3 wo), (aI g v2 3 he_), (aI g v3 3 uf_10)] := hD
                  refine lv_iinc (v := nI (y + 1)) (lv' := [(6, .int (nI (y + 1))), (4, .int (nI (vS Wr an a (dgt (49 * x + 7 * y + (d - x - y)))))), (7, .int (nI (vS Wr an a (dgt (49 * x + 7 * y + (d - x - y)))))), (0, .ref v0), (1, .int (nI an)), (2, .int (nI a)), (3, .int (nI d)), (5, .int (nI x))]) hx hb dX1_safe_84 hl (k := 7) rfl (nI_1 y) (by decide) rfl (fun ls hl => ?_)
                  refine lv_goto (tgt := 20) hx hb dX1_safe_87 (by decide) ?_
                  exact ih20 (y + 1) (nI (vS Wr an a (dgt (49 * x + 7 * y + (d - x - y))))) (nI (dsN (dgt (49 * x + 7 * y + (d - x - y))) v)) uf_10 (by omega) (by omega) (by rw [hup]; rfl) (by rw [hup]; rfl) (by rw [qF_yy hpu]; exact bo_s hbo (vS_le hW9 _ _ _)) _ _ _ hP hD hS (lv_sub hl [3, 4, 5, 6, 1, 7, 0] rfl)
                refine lv_iload hx hb dX1_safe_59 (lv_at hl 5 rfl) ?_
                refine lv_iconst (v := (-1)) hx hb dX1_safe_61 (by decide) ?_
                refine lv_icmp_eq (tgt := 72) hx hb dX1_safe_62 (by decide) (fun c_19 => ?_) (fun c_19 => ?_)
                · exact join72 () (by rw [qF_yy hpu]; exact st_y (v := fun r9 => vS Wr an a (dgt r9)) hbo (by decide) (Nat.lt_of_le_of_lt (vS_le hW9 _ _ _) (by decide)) (Or.inl (by rw [← hle]; exact c_19))) _ _ _ hP hD hS (lv_sub hl [0, 1, 2, 3, 4, 5, 6, 7] rfl)
                · refine lv_iload hx hb dX1_safe_65 (lv_at hl 0 rfl) ?_
                  refine lv_iload hx hb dX1_safe_67 (lv_at hl 5 rfl) ?_
                  refine lv_icmp_ge (tgt := 84) hx hb dX1_safe_69 (by decide) (fun c_20 => ?_) (fun c_20 => ?_)
                  · refine lv_iinc (v := nI (y + 1)) (lv' := [(6, .int (nI (y + 1))), (7, .int (nI (vS Wr an a (dgt (49 * x + 7 * y + (d - x - y)))))), (0, .ref v0), (1, .int (nI an)), (2, .int (nI a)), (3, .int (nI d)), (4, .int le), (5, .int (nI x))]) hx hb dX1_safe_84 hl (k := 7) rfl (nI_1 y) (by decide) rfl (fun ls hl => ?_)
                    refine lv_goto (tgt := 20) hx hb dX1_safe_87 (by decide) ?_
                    exact ih20 (y + 1) le dd uf_10 (by omega) (by omega) (hle.trans (congrArg leI (show (qF (stF (fun r9 => vS Wr an a (dgt r9))) none d an x (y + 1)) = (qF (stF (fun r9 => vS Wr an a (dgt r9))) none d an x y) by rw [qF_yy hpu]; exact st_n (v := fun r9 => vS Wr an a (dgt r9)) hbo (by decide) (Nat.lt_of_le_of_lt (vS_le hW9 _ _ _) (by decide)) (by rw [← hle]; exact c_19) (by rw [← hle]; exact c_20)).symm)) (hdd.trans (congrArg (fun q9 => nI (dsN (dgt (roN q9)) v)) (show (qF (stF (fun r9 => vS Wr an a (dgt r9))) none d an x (y + 1)) = (qF (stF (fun r9 => vS Wr an a (dgt r9))) none d an x y) by rw [qF_yy hpu]; exact st_n (v := fun r9 => vS Wr an a (dgt r9)) hbo (by decide) (Nat.lt_of_le_of_lt (vS_le hW9 _ _ _) (by decide)) (by rw [← hle]; exact c_19) (by rw [← hle]; exact c_20)).symm)) (by rw [show (qF (stF (fun r9 => vS Wr an a (dgt r9))) none d an x (y + 1)) = (qF (stF (fun r9 => vS Wr an a (dgt r9))) none d an x y) from (by rw [qF_yy hpu]; exact st_n (v := fun r9 => vS Wr an a (dgt r9)) hbo (by decide) (Nat.lt_of_le_of_lt (vS_le hW9 _ _ _) (by decide)) (by rw [← hle]; exact c_19) (by rw [← hle]; exact c_20))]; exact hbo) _ _ _ hP hD hS (lv_sub hl [2, 3, 4, 5, 6, 7, 0] rfl)
                  · exact join72 () (by rw [qF_yy hpu]; exact st_y (v := fun r9 => vS Wr an a (dgt r9)) hbo (by decide) (Nat.lt_of_le_of_lt (vS_le hW9 _ _ _) (by decide)) (Or.inr (by rw [← hle]; exact c_20))) _ _ _ hP hD hS (lv_sub hl [0, 1, 2, 3, 4, 5, 6, 7] rfl)
              · have hpu : ¬ puB (49 * x + 7 * y + (d - x - y)) d an = true := pu_n (rw3 hd6 (by omega) (by omega)).2.2.2.2 c_12
                refine lv_goto (tgt := 84) hx hb dX1_safe_48 (by decide) ?_
                refine lv_iinc (v := nI (y + 1)) (lv' := [(6, .int (nI (y + 1))), (0, .ref v0), (1, .int (nI an)), (2, .int (nI a)), (3, .int (nI d)), (4, .int le), (5, .int (nI x))]) hx hb dX1_safe_84 hl (k := 6) rfl (nI_1 y) (by decide) rfl (fun ls hl => ?_)
                refine lv_goto (tgt := 20) hx hb dX1_safe_87 (by decide) ?_
                exact ih20 (y + 1) le dd uf_10 (by omega) (by omega) (hle.trans (by rw [qF_yn hpu])) (hdd.trans (by rw [qF_yn hpu])) (by rw [qF_yn hpu]; exact hbo) _ _ _ hP hD hS (lv_sub hl [1, 2, 3, 4, 5, 6, 0] rfl)
        exact loop20 ((d - x + 1 - 0) + 1) 0 le dd pu (Nat.lt_succ_self _) (Nat.zero_le _) hle hdd hbo _ _ _ hP hD hS (lv_sub hl [1, 2, 3, 4, 5, 6, 0] rfl)
  exact loop11 ((d + 1 - 0) + 1) 0 (-1) 0 pf (Nat.lt_succ_self _) (Nat.zero_le _) rfl (by rw [qF_0]; show (0 : Int32) = nI (dsN (dgt 0) v); rw [ds_0]; rfl) bo_n _ _ _ hP hD hS (lv_sub hl [2, 3, 4, 5, 1, 0] rfl)
set_option maxHeartbeats 4000000 in
set_option maxRecDepth 100000 in
theorem s_X1_sure (l : Launch) (g : he_G) (v0 : Nat) (v1 : Nat) (v2 : Nat) (v3 : Nat) (v : Nat) (dg : Int32) (wo : Nat → Int32) (he_ : Nat → Int32) (pf : Nat → Int32) (Wr : Nat → Nat) (d : Nat) (a : Nat) (hv3 : v ≤ 3) (hd6 : d ≤ 6) (ha6 : a ≤ 6) (hWH : ∀ k, k < 3 → bt (allN v) k = true → wo k = nI (Wr k) ∧ he_ k = nI (Wr k / 25)) (hW9 : ∀ k, Wr k ≤ 99) : he_I l yX1_sure wsX1_sure 3 60 0 0 g [.ref v0, .int (nI d), .int (nI a)] [(oX1 v0 v1 v2 v3 (nI v) dg), (aI g v1 3 wo), (aI g v2 3 he_), (aI g v3 3 pf)] (fun (r : Int32) (u : Nat → Int32) => r = nI (moC Wr (allN v) d a)) (fun (u : Nat → Int32) => [(oX1 v0 v1 v2 v3 (nI v) dg), (aI g v1 3 wo), (aI g v2 3 he_), (aI g v3 3 u)]) := by
  refine he_begin (l := l) (g := g) (y := yX1_sure) (wl := wsX1_sure) (fr := 3) (lo := 60) (mc := 0) (ms := 0) (av := [.ref v0, .int (nI d), .int (nI a)]) (ws := [(oX1 v0 v1 v2 v3 (nI v) dg), (aI g v1 3 wo), (aI g v2 3 he_), (aI g v3 3 pf)]) (cc := cX1_sure) (maxL := 6) (ret := (some .int)) (fun A => va_Qi (fun (r : Int32) (u : Nat → Int32) => r = nI (moC Wr (allN v) d a)) (fun u t => he_post g A ((fun (u : Nat → Int32) => [(oX1 v0 v1 v2 v3 (nI v) dg), (aI g v1 3 wo), (aI g v2 3 he_), (aI g v3 3 u)]) u) t) A) (by decide) rfl (Nat.le_of_ble_eq_true rfl) ?_
  intro p e s m args below meth c A ls H locs Q hQ hB
  obtain ⟨hx, hb, hr, hml, hown, hts, hlk, hin, hP, hK, hD, hS, hA, hE, hl⟩ := hB
  have hl : lv_has ls 6 [(0, .ref v0), (1, .int (nI d)), (2, .int (nI a))] := hl
  have h79 := all_7 hv3
  have ml51 := hts (.methodLink RX1 51 Lib.Math.max.name) (iwoX1_sure (k := 0) rfl)
  have msmax := hts (.static Lib.Math.max.name) (iwoX1_sure (k := 1) rfl)
  have mi := hts (.initialized "java/lang/Math") (iwoX1_sure (k := 2) rfl)
  have mcmax := hts (.code Lib.Math.max.name Lib.Math.max.code 2 (some .int)) (by decide +kernel)
  refine lv_iconst (v := 0) hx hb dX1_sure_0 (by decide) ?_
  refine lv_istore_n (lv' := [(3, .int 0), (0, .ref v0), (1, .int (nI d)), (2, .int (nI a))]) hx hb dX1_sure_1 rfl hl (by decide) rfl (fun ls hl => ?_)
  refine lv_iconst (v := 0) hx hb dX1_sure_2 (by decide) ?_
  refine lv_istore (lv' := [(4, .int 0), (3, .int 0), (0, .ref v0), (1, .int (nI d)), (2, .int (nI a))]) hx hb dX1_sure_3 hl (by decide) rfl (fun ls hl => ?_)
  have loop5 : ∀ (n9 : Nat) (x : Nat) (mx : Nat) (pu : Nat → Int32), d + 1 - x < n9 → (x ≤ d + 1) → (mx = (qF (mxS (fun r9 => uS Wr (allN v) a (dgt r9))) 0 d (allN v) x 0)) → ((qF (mxS (fun r9 => uS Wr (allN v) a (dgt r9))) 0 d (allN v) x 0) ≤ 297) → ∀ (H : Heap) (locs : List Loc) (ls : Array Slot), va_P g.1 vwCl [(oX1 v0 v1 v2 v3 (nI v) dg), (aI g v1 3 wo), (aI g v2 3 he_), (aI g v3 3 pu)] H → va_D A [(oX1 v0 v1 v2 v3 (nI v) dg), (aI g v1 3 wo), (aI g v2 3 he_), (aI g v3 3 pu)] → va_S A s.heap H locs → lv_has ls 6 [(0, .ref v0), (1, .int (nI d)), (2, .int (nI a)), (3, .int (nI mx)), (4, .int (nI x))] → W p l e (he_room 3 60 0 0) s m args below meth c H locs 0 0 Q (F0 m 5 ls []) := by
    intro n9
    induction n9 with
    | zero => intro x mx pu hm9; exact absurd hm9 (Nat.not_lt_zero _)
    | succ n9 ih5 =>
      intro x mx pu hm9 hx6 hmx hmb H locs ls hP hD hS hl
      refine lv_iload hx hb dX1_sure_5 (lv_at hl 4 rfl) ?_
      refine lv_iload_n hx hb dX1_sure_7 rfl (lv_at hl 1 rfl) ?_
      refine lv_icmp_gt (tgt := 67) hx hb dX1_sure_8 (by decide) (fun c_1 => ?_) (fun c_1 => ?_)
      · have k_2 : d < x := (he_clt (a := d) (b := x) rfl rfl (by omega) (by omega)).mp c_1
        refine lv_iload_n hx hb dX1_sure_67 rfl (lv_at hl 3 rfl) ?_
        exact he_ri hQ hx hb hr hlk hP hD hS dX1_sure_68 (Nat.le_of_ble_eq_true rfl) (Nat.le_of_ble_eq_true rfl) (pu) (rfl) ((congrArg nI (by rw [hmx, show x = d + 1 by omega]; rfl)))
      · have k_3 : ¬ (d < x) := fun h9 => c_1 ((he_clt (a := d) (b := x) rfl rfl (by omega) (by omega)).mpr h9)
        refine lv_iconst (v := 0) hx hb dX1_sure_11 (by decide) ?_
        refine lv_istore (lv' := [(5, .int 0), (0, .ref v0), (1, .int (nI d)), (2, .int (nI a)), (3, .int (nI mx)), (4, .int (nI x))]) hx hb dX1_sure_12 hl (by decide) rfl (fun ls hl => ?_)
        have loop14 : ∀ (n9 : Nat) (y : Nat) (mx : Nat) (pu : Nat → Int32), d - x + 1 - y < n9 → (y ≤ d - x + 1) → (mx = (qF (mxS (fun r9 => uS Wr (allN v) a (dgt r9))) 0 d (allN v) x y)) → ((qF (mxS (fun r9 => uS Wr (allN v) a (dgt r9))) 0 d (allN v) x y) ≤ 297) → ∀ (H : Heap) (locs : List Loc) (ls : Array Slot), va_P g.1 vwCl [(oX1 v0 v1 v2 v3 (nI v) dg), (aI g v1 3 wo), (aI g v2 3 he_), (aI g v3 3 pu)] H → va_D A [(oX1 v0 v1 v2 v3 (nI v) dg), (aI g v1 3 wo), (aI g v2 3 he_), (aI g v3 3 pu)] → va_S A s.heap H locs → lv_has ls 6 [(0, .ref v0), (1, .int (nI d)), (2, .int (nI a)), (3, .int (nI mx)), (4, .int (nI x)), (5, .int (nI y))] → W p l e (he_room 3 60 0 0) s m args below meth c H locs 0 0 Q (F0 m 14 ls []) := by
          intro n9
          induction n9 with
          | zero => intro y mx pu hm9; exact absurd hm9 (Nat.not_lt_zero _)
          | succ n9 ih14 =>
            intro y mx pu hm9 hy6 hmx hmb H locs ls hP hD hS hl
            refine lv_iload hx hb dX1_sure_14 (lv_at hl 5 rfl) ?_
            refine lv_iload_n hx hb dX1_sure_16 rfl (lv_at hl 1 rfl) ?_
            refine lv_iload hx hb dX1_sure_17 (lv_at hl 4 rfl) ?_
            refine lv_isub hx hb dX1_sure_19 ?_
            refine he_top (nI (d - x)) (pk_sub (by omega)) ?_
            refine lv_icmp_gt (tgt := 61) hx hb dX1_sure_20 (by decide) (fun c_4 => ?_) (fun c_4 => ?_)
            · have k_5 : d - x < y := (he_clt (a := d - x) (b := y) rfl rfl (by omega) (by omega)).mp c_4
              refine lv_iinc (v := nI (x + 1)) (lv' := [(4, .int (nI (x + 1))), (0, .ref v0), (1, .int (nI d)), (2, .int (nI a)), (3, .int (nI mx)), (5, .int (nI y))]) hx hb dX1_sure_61 hl (k := 4) rfl (nI_1 x) (by decide) rfl (fun ls hl => ?_)
              refine lv_goto (tgt := 5) hx hb dX1_sure_64 (by decide) ?_
              exact ih5 (x + 1) mx pu (by omega) (by omega) (by rw [qF_x, ← show y = d + 1 - x by omega]; exact hmx) (by rw [qF_x, ← show y = d + 1 - x by omega]; exact hmb) _ _ _ hP hD hS (lv_sub hl [1, 2, 3, 4, 0] rfl)
            · have k_6 : ¬ (d - x < y) := fun h9 => c_4 ((he_clt (a := d - x) (b := y) rfl rfl (by omega) (by omega)).mpr h9)
              refine lv_aload_n hx hb dX1_sure_23 rfl (lv_at hl 0 rfl) ?_
              refine lv_aload_n hx hb dX1_sure_24 rfl (lv_at hl 0 rfl) ?_
              refine he_ci (wc := [(oX1 v0 v1 v2 v3 (nI v) dg), (aI g v1 3 wo), (aI g v2 3 he_), (aI g v3 3 pu)]) (wr := []) (va_runV (As := []) (rest := [.ref v0]) ⟨hx, hb, hml, hown, hts⟩ (g_X1_all l g v0 v1 v2 v3 v dg wo he_ pu (by first | assumption | decide | omega) H.size) (cwV 0 hts gX1_sure_X1_all rfl rfl rfl (by decide +kernel) ⟨Nat.le_of_ble_eq_true rfl, Nat.le_of_ble_eq_true rfl⟩) (he_preV (wc := [(oX1 v0 v1 v2 v3 (nI v) dg), (aI g v1 3 wo), (aI g v2 3 he_), (aI g v3 3 pu)]) hK hP hD hS hA hE [0, 1, 2, 3] rfl rfl 0 rfl rfl) rfl rfl hl.1 rfl (lv_room (Nat.le_of_ble_eq_true rfl)) dX1_sure_25 ⟨(Nat.le_of_ble_eq_true rfl), (Nat.le_of_ble_eq_true rfl)⟩) hP hD hS hA [0, 1, 2, 3] [] rfl rfl rfl (by decide) (fun r_7 u_8 H locs h_9 hP hD hS => ?_)
              subst h_9
              have hP : va_P g.1 vwCl [(oX1 v0 v1 v2 v3 (nI v) dg), (aI g v1 3 wo), (aI g v2 3 he_), (aI g v3 3 pu)] H := hP
              have hD : va_D A [(oX1 v0 v1 v2 v3 (nI v) dg), (aI g v1 3 wo), (aI g v2 3 he_), (aI g v3 3 pu)] := hD
              refine lv_iload hx hb dX1_sure_28 (lv_at hl 4 rfl) ?_
              refine lv_iload hx hb dX1_sure_30 (lv_at hl 5 rfl) ?_
              refine lv_iload_n hx hb dX1_sure_32 rfl (lv_at hl 1 rfl) ?_
              refine lv_iload hx hb dX1_sure_33 (lv_at hl 4 rfl) ?_
              refine lv_isub hx hb dX1_sure_35 ?_
              refine he_top (nI (d - x)) (pk_sub (by omega)) ?_
              refine lv_iload hx hb dX1_sure_36 (lv_at hl 5 rfl) ?_
              refine lv_isub hx hb dX1_sure_38 ?_
              refine he_top (nI (d - x - y)) (pk_sub (by omega)) ?_
              refine he_ci (wc := [(oX1 v0 v1 v2 v3 (nI v) dg), (aI g v1 3 wo), (aI g v2 3 he_), (aI g v3 3 pu)]) (wr := []) (va_runV (As := [.int (nI (allN v)), .int (nI x), .int (nI y), .int (nI (d - x - y))]) (rest := []) ⟨hx, hb, hml, hown, hts⟩ (s_X1_place l g v0 v1 v2 v3 v dg wo he_ pu (dgt (49 * x + 7 * y + (d - x - y))) (allN v) x y (d - x - y) (by omega) (rw3 hd6 (by omega) (by omega)).1 (rw3 hd6 (by omega) (by omega)).2.1 (rw3 hd6 (by omega) (by omega)).2.2.1 (dgt_le (rw3 hd6 (by omega) (by omega)).2.2.2.1) H.size) (cwV 4 hts gX1_sure_X1_place rfl rfl rfl (by decide +kernel) ⟨Nat.le_of_ble_eq_true rfl, Nat.le_of_ble_eq_true rfl⟩) (he_preV (wc := [(oX1 v0 v1 v2 v3 (nI v) dg), (aI g v1 3 wo), (aI g v2 3 he_), (aI g v3 3 pu)]) hK hP hD hS hA hE [0, 1, 2, 3] rfl rfl 0 rfl rfl) rfl rfl hl.1 rfl (lv_room (Nat.le_of_ble_eq_true rfl)) dX1_sure_39 ⟨(Nat.le_of_ble_eq_true rfl), (Nat.le_of_ble_eq_true rfl)⟩) hP hD hS hA [0, 1, 2, 3] [] rfl rfl rfl (by decide) (fun r_10 u_11 H locs h_12 hP hD hS => ?_)
              obtain ⟨uf_13, rfl⟩ : ∃ z, z = u_11 := ⟨_, rfl⟩
              try dsimp only at h_12
              obtain ⟨rfl, hf_14⟩ := h_12
              have hP : va_P g.1 vwCl [(oX1 v0 v1 v2 v3 (nI v) dg), (aI g v1 3 wo), (aI g v2 3 he_), (aI g v3 3 uf_13)] H := hP
              have hD : va_D A [(oX1 v0 v1 v2 v3 (nI v) dg), (aI g v1 3 wo), (aI g v2 3 he_), (aI g v3 3 uf_13)] := hD
              refine lv_if_eq (tgt := 55) hx hb dX1_sure_42 (by decide) (fun c_15 => ?_) (fun c_15 => ?_)
              · have hpu : ¬ puB (49 * x + 7 * y + (d - x - y)) d (allN v) = true := pu_n (rw3 hd6 (by omega) (by omega)).2.2.2.2 c_15
                refine lv_iinc (v := nI (y + 1)) (lv' := [(5, .int (nI (y + 1))), (0, .ref v0), (1, .int (nI d)), (2, .int (nI a)), (3, .int (nI mx)), (4, .int (nI x))]) hx hb dX1_sure_55 hl (k := 5) rfl (nI_1 y) (by decide) rfl (fun ls hl => ?_)
                refine lv_goto (tgt := 14) hx hb dX1_sure_58 (by decide) ?_
                exact ih14 (y + 1) mx uf_13 (by omega) (by omega) (by rw [qF_yn hpu]; exact hmx) (by rw [qF_yn hpu]; exact hmb) _ _ _ hP hD hS (lv_sub hl [1, 2, 3, 4, 5, 0] rfl)
              · have hpu : puB (49 * x + 7 * y + (d - x - y)) d (allN v) = true := pu_y (rw3 hd6 (by omega) (by omega)).2.2.2.2 c_15
                refine lv_iload_n hx hb dX1_sure_45 rfl (lv_at hl 3 rfl) ?_
                refine lv_aload_n hx hb dX1_sure_46 rfl (lv_at hl 0 rfl) ?_
                refine lv_iload_n hx hb dX1_sure_47 rfl (lv_at hl 2 rfl) ?_
                refine he_ci (wc := [(oX1 v0 v1 v2 v3 (nI v) dg), (aI g v1 3 wo), (aI g v2 3 he_), (aI g v3 3 uf_13)]) (wr := []) (va_runV (As := [.int (nI a)]) (rest := [.int (nI mx)]) ⟨hx, hb, hml, hown, hts⟩ (s_X1_leastFelled l g v0 v1 v2 v3 v dg wo he_ uf_13 Wr (dgt (49 * x + 7 * y + (d - x - y))) a (by first | assumption | decide | omega) (by first | assumption | decide | omega) (by first | assumption | decide | omega) hf_14 (dgt_le (rw3 hd6 (by omega) (by omega)).2.2.2.1) (by first | assumption | decide | omega) H.size) (cwV 1 hts gX1_sure_X1_leastFelled rfl rfl rfl (by decide +kernel) ⟨Nat.le_of_ble_eq_true rfl, Nat.le_of_ble_eq_true rfl⟩) (he_preV (wc := [(oX1 v0 v1 v2 v3 (nI v) dg), (aI g v1 3 wo), (aI g v2 3 he_), (aI g v3 3 uf_13)]) hK hP hD hS hA hE [0, 1, 2, 3] rfl rfl 0 rfl rfl) rfl rfl hl.1 rfl (lv_room (Nat.le_of_ble_eq_true rfl)) dX1_sure_48 ⟨(Nat.le_of_ble_eq_true rfl), (Nat.le_of_ble_eq_true rfl)⟩) hP hD hS hA [0, 1, 2, 3] [] rfl rfl rfl (by decide) (fun r_16 u_17 H locs h_18 hP hD hS => ?_)
                subst h_18
                have hP : va_P g.1 vwCl [(oX1 v0 v1 v2 v3 (nI v) dg), (aI g v1 3 wo), (aI g v2 3 he_), (aI g v3 3 uf_13)] H := hP
                have hD : va_D A [(oX1 v0 v1 v2 v3 (nI v) dg), (aI g v1 3 wo), (aI g v2 3 he_), (aI g v3 3 uf_13)] := hD
                refine va_mmax hx hb (by rw [hml]; exact hl.1.symm) hown ml51 msmax mi mcmax (by decide) (Nat.le_of_ble_eq_true rfl) (Nat.le_of_ble_eq_true rfl) (Nat.le_of_ble_eq_true rfl) dX1_sure_51 ?_
                refine he_top (nI (if mx < uS Wr (allN v) a (dgt (49 * x + 7 * y + (d - x - y))) then uS Wr (allN v) a (dgt (49 * x + 7 * y + (d - x - y))) else mx)) (mx_if (by rw [hmx]; exact Nat.lt_of_le_of_lt hmb (by decide)) (Nat.lt_of_le_of_lt (uS_le hW9 _ _ _) (by decide))) ?_
                refine lv_istore_n (lv' := [(3, .int (nI (if mx < uS Wr (allN v) a (dgt (49 * x + 7 * y + (d - x - y))) then uS Wr (allN v) a (dgt (49 * x + 7 * y + (d - x - y))) else mx))), (0, .ref v0), (1, .int (nI d)), (2, .int (nI a)), (4, .int (nI x)), (5, .int (nI y))]) hx hb dX1_sure_54 rfl hl (by decide) rfl (fun ls hl => ?_)
                refine lv_iinc (v := nI (y + 1)) (lv' := [(5, .int (nI (y + 1))), (3, .int (nI (if mx < uS Wr (allN v) a (dgt (49 * x + 7 * y + (d - x - y))) then uS Wr (allN v) a (dgt (49 * x + 7 * y + (d - x - y))) else mx))), (0, .ref v0), (1, .int (nI d)), (2, .int (nI a)), (4, .int (nI x))]) hx hb dX1_sure_55 hl (k := 5) rfl (nI_1 y) (by decide) rfl (fun ls hl => ?_)
                refine lv_goto (tgt := 14) hx hb dX1_sure_58 (by decide) ?_
                exact ih14 (y + 1) (if mx < uS Wr (allN v) a (dgt (49 * x + 7 * y + (d - x - y))) then uS Wr (allN v) a (dgt (49 * x + 7 * y + (d - x - y))) else mx) uf_13 (by omega) (by omega) (by rw [qF_yy hpu, hmx]; rfl) (by rw [qF_yy hpu, ← hmx]; have h8 := uS_le hW9 (allN v) a (dgt (49 * x + 7 * y + (d - x - y))); have h9 : mx ≤ 297 := (by rw [hmx]; exact hmb); show (if mx < uS Wr (allN v) a (dgt (49 * x + 7 * y + (d - x - y))) then uS Wr (allN v) a (dgt (49 * x + 7 * y + (d - x - y))) else mx) ≤ 297; split <;> omega) _ _ _ hP hD hS (lv_sub hl [2, 3, 4, 1, 5, 0] rfl)
        exact loop14 ((d - x + 1 - 0) + 1) 0 mx pu (Nat.lt_succ_self _) (Nat.zero_le _) hmx hmb _ _ _ hP hD hS (lv_sub hl [1, 2, 3, 4, 5, 0] rfl)
  exact loop5 ((d + 1 - 0) + 1) 0 0 pf (Nat.lt_succ_self _) (Nat.zero_le _) rfl (Nat.zero_le _) _ _ _ hP hD hS (lv_sub hl [2, 3, 4, 1, 0] rfl)
set_option maxHeartbeats 4000000 in
set_option maxRecDepth 100000 in
theorem s_X1_prepare (l : Launch) (g : he_G) (v0 : Nat) (v1 : Nat) (v2 : Nat) (v3 : Nat) (ww : Int32) (dg : Int32) (wo : Nat → Int32) (he_ : Nat → Int32) (pf : Nat → Int32) (p0 : Nat) (p1 : Nat) (p2 : Nat) (p3 : Nat) (p4 : Nat) (w : Nat) (st : Nat → Int32) (Wr : Nat → Nat) (hw6 : w ≤ 6) (hst : ∀ k, k < w → st k = nI (Wr k)) (hW9 : ∀ k, Wr k ≤ 99) : he_V l yX1_prepare wsX1_prepare 1 14 0 0 g [.ref v0, .ref p0] [(oX1 v0 v1 v2 v3 ww dg), (aI g v1 3 wo), (aI g v2 3 he_), (aI g v3 3 pf), (oX6 p0 p1 p2 p3 p4 (nI w)), (aI g p3 6 st)] (fun (u : (Nat → Int32) × (Nat → Int32)) => ∀ k, k < (if 3 < w then 3 else w) → u.1 k = nI (Wr k) ∧ u.2 k = nI (Wr k / 25)) (fun (u : (Nat → Int32) × (Nat → Int32)) => [(oX1 v0 v1 v2 v3 (nI (if 3 < w then 3 else w)) dg), (aI g v1 3 u.1), (aI g v2 3 u.2), (aI g v3 3 pf), (oX6 p0 p1 p2 p3 p4 (nI w)), (aI g p3 6 st)]) := by
  refine he_begin (l := l) (g := g) (y := yX1_prepare) (wl := wsX1_prepare) (fr := 1) (lo := 14) (mc := 0) (ms := 0) (av := [.ref v0, .ref p0]) (ws := [(oX1 v0 v1 v2 v3 ww dg), (aI g v1 3 wo), (aI g v2 3 he_), (aI g v3 3 pf), (oX6 p0 p1 p2 p3 p4 (nI w)), (aI g p3 6 st)]) (cc := cX1_prepare) (maxL := 3) (ret := none) (fun A => va_Qv (fun (u : (Nat → Int32) × (Nat → Int32)) => ∀ k, k < (if 3 < w then 3 else w) → u.1 k = nI (Wr k) ∧ u.2 k = nI (Wr k / 25)) (fun u t => he_post g A ((fun (u : (Nat → Int32) × (Nat → Int32)) => [(oX1 v0 v1 v2 v3 (nI (if 3 < w then 3 else w)) dg), (aI g v1 3 u.1), (aI g v2 3 u.2), (aI g v3 3 pf), (oX6 p0 p1 p2 p3 p4 (nI w)), (aI g p3 6 st)]) u) t) A) (by decide) rfl (Nat.le_of_ble_eq_true rfl) ?_
  intro p e s m args below meth c A ls H locs Q hQ hB
  obtain ⟨hx, hb, hr, hml, hown, hts, hlk, hin, hP, hK, hD, hS, hA, hE, hl⟩ := hB
  have hl : lv_has ls 3 [(0, .ref v0), (1, .ref p0)] := hl
  have hv9 := v3_le w
  have f21 := hts (.fieldLink RX1 21 "HiredEnemy$Plan" "walls" "I") (iwoX1_prepare (k := 0) rfl)
  have inX6 : ∀ w ∈ wsX60, w ∈ wsX1_prepare := innX1_prepare_X6
  have ml27 := hts (.methodLink RX1 27 Lib.Math.min.name) (iwoX1_prepare (k := 1) rfl)
  have msmin := hts (.static Lib.Math.min.name) (iwoX1_prepare (k := 2) rfl)
  have mi := hts (.initialized "java/lang/Math") (iwoX1_prepare (k := 3) rfl)
  have mcmin := hts (.code Lib.Math.min.name Lib.Math.min.code 2 (some .int)) (iwoX1_prepare (k := 4) rfl)
  have f33 := hts (.fieldLink RX1 33 "HiredEnemy$Battle" "walls" "I") (iwoX1_prepare (k := 5) rfl)
  have inX1 : ∀ w ∈ wsX10, w ∈ wsX1_prepare := innX1_prepare_X1
  have f11 := hts (.fieldLink RX1 11 "HiredEnemy$Battle" "worth" "[I") (iwoX1_prepare (k := 6) rfl)
  have f34 := hts (.fieldLink RX1 34 "HiredEnemy$Plan" "strength" "[I") (iwoX1_prepare (k := 7) rfl)
  have f15 := hts (.fieldLink RX1 15 "HiredEnemy$Battle" "held" "[I") (iwoX1_prepare (k := 8) rfl)
  refine lv_aload_n hx hb dX1_prepare_0 rfl (lv_at hl 0 rfl) ?_
  refine lv_aload_n hx hb dX1_prepare_1 rfl (lv_at hl 1 rfl) ?_
  refine va_get (v := .int (nI w)) (T := TX6) (N := 5) hx hb hts inX6 hown hK hP 4 rfl rfl 4 (by decide) f21 (fun _ h9 => h9) rfl dX1_prepare_2 ?_
  refine lv_iconst (v := 3) hx hb dX1_prepare_5 (by decide) ?_
  refine va_mmin hx hb (by rw [hml]; exact hl.1.symm) hown ml27 msmin mi mcmin (by decide) (Nat.le_of_ble_eq_true rfl) (Nat.le_of_ble_eq_true rfl) (Nat.le_of_ble_eq_true rfl) dX1_prepare_6 ?_
  refine he_top (nI (if 3 < w then 3 else w)) (nI_min3 hw6) ?_
  refine va_put (v := .int (nI (if 3 < w then 3 else w))) (ty := .int) (T := TX1) (N := 5) hx hb hts inX1 tyX1 tyX1_ok nmX1 hown hK hP hD hS 0 rfl rfl 3 (by decide) f33 (fun _ h9 => h9) rfl (by decide +kernel) rfl rfl (Nat.le_of_ble_eq_true rfl) dX1_prepare_9 (fun H locs hP hD hS => ?_)
  have hP : va_P g.1 vwCl [(oX1 v0 v1 v2 v3 (nI (if 3 < w then 3 else w)) dg), (aI g v1 3 wo), (aI g v2 3 he_), (aI g v3 3 pf), (oX6 p0 p1 p2 p3 p4 (nI w)), (aI g p3 6 st)] H := hP
  have hD : va_D A [(oX1 v0 v1 v2 v3 (nI (if 3 < w then 3 else w)) dg), (aI g v1 3 wo), (aI g v2 3 he_), (aI g v3 3 pf), (oX6 p0 p1 p2 p3 p4 (nI w)), (aI g p3 6 st)] := hD
  refine lv_iconst (v := 0) hx hb dX1_prepare_12 (by decide) ?_
  refine lv_istore_n (lv' := [(2, .int 0), (0, .ref v0), (1, .ref p0)]) hx hb dX1_prepare_13 rfl hl (by decide) rfl (fun ls hl => ?_)
  have loop14 : ∀ (n9 : Nat) (j : Nat) (F : Nat → Int32) (G : Nat → Int32), (if 3 < w then 3 else w) - j < n9 → (j ≤ (if 3 < w then 3 else w)) → (∀ k, k < j → F k = nI (Wr k) ∧ G k = nI (Wr k / 25)) → ∀ (H : Heap) (locs : List Loc) (ls : Array Slot), va_P g.1 vwCl [(oX1 v0 v1 v2 v3 (nI (if 3 < w then 3 else w)) dg), (aI g v1 3 F), (aI g v2 3 G), (aI g v3 3 pf), (oX6 p0 p1 p2 p3 p4 (nI w)), (aI g p3 6 st)] H → va_D A [(oX1 v0 v1 v2 v3 (nI (if 3 < w then 3 else w)) dg), (aI g v1 3 F), (aI g v2 3 G), (aI g v3 3 pf), (oX6 p0 p1 p2 p3 p4 (nI w)), (aI g p3 6 st)] → va_S A s.heap H locs → lv_has ls 3 [(0, .ref v0), (1, .ref p0), (2, .int (nI j))] → W p l e (he_room 1 14 0 0) s m args below meth c H locs 0 0 Q (F0 m 14 ls []) := by
    intro n9
    induction n9 with
    | zero => intro j F G hm9; exact absurd hm9 (Nat.not_lt_zero _)
    | succ n9 ih14 =>
      intro j F G hm9 hj hFG H locs ls hP hD hS hl
      refine lv_iload_n hx hb dX1_prepare_14 rfl (lv_at hl 2 rfl) ?_
      refine lv_aload_n hx hb dX1_prepare_15 rfl (lv_at hl 0 rfl) ?_
      refine va_get (v := .int (nI (if 3 < w then 3 else w))) (T := TX1) (N := 5) hx hb hts inX1 hown hK hP 0 rfl rfl 3 (by decide) f33 (fun _ h9 => h9) rfl dX1_prepare_16 ?_
      refine lv_icmp_ge (tgt := 55) hx hb dX1_prepare_19 (by decide) (fun c_1 => ?_) (fun c_1 => ?_)
      · have k_2 : (if 3 < w then 3 else w) ≤ j := (he_cle (a := (if 3 < w then 3 else w)) (b := j) rfl rfl (by omega) (by omega)).mp c_1
        exact he_rv hQ hx hb hr hlk hP hD hS dX1_prepare_55 (Nat.le_of_ble_eq_true rfl) (Nat.le_of_ble_eq_true rfl) ((F, G)) (rfl) ((fun k9 h9 => hFG k9 (by (try dsimp only); omega)))
      · have k_3 : ¬ ((if 3 < w then 3 else w) ≤ j) := fun h9 => c_1 ((he_cle (a := (if 3 < w then 3 else w)) (b := j) rfl rfl (by omega) (by omega)).mpr h9)
        refine lv_aload_n hx hb dX1_prepare_22 rfl (lv_at hl 0 rfl) ?_
        refine va_get (v := .ref v1) (T := TX1) (N := 5) hx hb hts inX1 hown hK hP 0 rfl rfl 0 (by decide) f11 (fun _ h9 => h9) rfl dX1_prepare_23 ?_
        refine lv_iload_n hx hb dX1_prepare_26 rfl (lv_at hl 2 rfl) ?_
        refine lv_aload_n hx hb dX1_prepare_27 rfl (lv_at hl 1 rfl) ?_
        refine va_get (v := .ref p3) (T := TX6) (N := 5) hx hb hts inX6 hown hK hP 4 rfl rfl 2 (by decide) f34 (fun _ h9 => h9) rfl dX1_prepare_28 ?_
        refine lv_iload_n hx hb dX1_prepare_31 rfl (lv_at hl 2 rfl) ?_
        refine he_iald hx hb hK hP 5 rfl (j) rfl (by first | assumption | decide | omega) (by first | decide | assumption) (st j) rfl dX1_prepare_32 ?_
        refine he_iast hx hb hK hP hD hS 1 rfl (j) rfl (by first | assumption | decide | omega) (by first | decide | assumption) dX1_prepare_33 (fun H locs hP hD hS => ?_)
        have hP : va_P g.1 vwCl [(oX1 v0 v1 v2 v3 (nI (if 3 < w then 3 else w)) dg), (aI g v1 3 (upd F j (st j))), (aI g v2 3 G), (aI g v3 3 pf), (oX6 p0 p1 p2 p3 p4 (nI w)), (aI g p3 6 st)] H := hP
        have hD : va_D A [(oX1 v0 v1 v2 v3 (nI (if 3 < w then 3 else w)) dg), (aI g v1 3 (upd F j (st j))), (aI g v2 3 G), (aI g v3 3 pf), (oX6 p0 p1 p2 p3 p4 (nI w)), (aI g p3 6 st)] := hD
        refine lv_aload_n hx hb dX1_prepare_34 rfl (lv_at hl 0 rfl) ?_
        refine va_get (v := .ref v2) (T := TX1) (N := 5) hx hb hts inX1 hown hK hP 0 rfl rfl 1 (by decide) f15 (fun _ h9 => h9) rfl dX1_prepare_35 ?_
        refine lv_iload_n hx hb dX1_prepare_38 rfl (lv_at hl 2 rfl) ?_
        refine lv_aload_n hx hb dX1_prepare_39 rfl (lv_at hl 1 rfl) ?_
        refine va_get (v := .ref p3) (T := TX6) (N := 5) hx hb hts inX6 hown hK hP 4 rfl rfl 2 (by decide) f34 (fun _ h9 => h9) rfl dX1_prepare_40 ?_
        refine lv_iload_n hx hb dX1_prepare_43 rfl (lv_at hl 2 rfl) ?_
        refine he_iald hx hb hK hP 5 rfl (j) rfl (by first | assumption | decide | omega) (by first | decide | assumption) (st j) rfl dX1_prepare_44 ?_
        refine lv_bipush (v := 25) hx hb dX1_prepare_45 (by decide) ?_
        refine lv_idiv hx hb dX1_prepare_47 (by decide) ?_
        refine he_iast hx hb hK hP hD hS 2 rfl (j) rfl (by first | assumption | decide | omega) (by first | decide | assumption) dX1_prepare_48 (fun H locs hP hD hS => ?_)
        have hP : va_P g.1 vwCl [(oX1 v0 v1 v2 v3 (nI (if 3 < w then 3 else w)) dg), (aI g v1 3 (upd F j (st j))), (aI g v2 3 (upd G j ((st j) / 25))), (aI g v3 3 pf), (oX6 p0 p1 p2 p3 p4 (nI w)), (aI g p3 6 st)] H := hP
        have hD : va_D A [(oX1 v0 v1 v2 v3 (nI (if 3 < w then 3 else w)) dg), (aI g v1 3 (upd F j (st j))), (aI g v2 3 (upd G j ((st j) / 25))), (aI g v3 3 pf), (oX6 p0 p1 p2 p3 p4 (nI w)), (aI g p3 6 st)] := hD
        refine lv_iinc (v := nI (j + 1)) (lv' := [(2, .int (nI (j + 1))), (0, .ref v0), (1, .ref p0)]) hx hb dX1_prepare_49 hl (k := 2) rfl (nI_1 j) (by decide) rfl (fun ls hl => ?_)
        refine lv_goto (tgt := 14) hx hb dX1_prepare_52 (by decide) ?_
        exact ih14 (j + 1) (upd F j (st j)) (upd G j ((st j) / 25)) (by omega) (by omega) (pr_s hFG (hst j (v3_lt (by omega))) (hW9 j)) _ _ _ hP hD hS (lv_sub hl [1, 2, 0] rfl)
  exact loop14 (((if 3 < w then 3 else w) - 0) + 1) 0 wo he_ (Nat.lt_succ_self _) (Nat.zero_le _) (fun k9 h9 => absurd h9 (Nat.not_lt_zero k9)) _ _ _ hP hD hS (lv_sub hl [1, 2, 0] rfl)
set_option maxHeartbeats 4000000 in
set_option maxRecDepth 100000 in
theorem s_X10_earnest0 (l : Launch) (g : he_G) (x0 : Nat) (y0 : Nat) (z0 : Nat) (dr : Nat) (pa : Nat) (s0 : Nat) (im : Nat) (tr : Nat) (v0 : Nat) (rf : Nat) (ta : Int32) (to_ : Int32) (ki : Int32) (p0 : Nat) (p1 : Nat) (p2 : Nat) (p3 : Nat) (p4 : Nat) (w : Nat) (st : Nat → Int32) (v1 : Nat) (v2 : Nat) (v3 : Nat) (ww : Int32) (dg : Int32) (wo : Nat → Int32) (he_ : Nat → Int32) (pf : Nat → Int32) (a : Nat) (d : Nat) (Wr : Nat → Nat) (hw6 : w ≤ 6) (ha6 : a ≤ 6) (hd6 : d ≤ 6) (hst : ∀ k, k < w → st k = nI (Wr k)) (hW9 : ∀ k, Wr k ≤ 99) : he_I l yX10_earnest wsX10_earnest 3 74 0 0 g [.ref x0, .int (nI a), .int (nI d), .int 0] [(oX10 x0 y0 ta z0 p0 dr pa to_ s0 im ki tr v0 rf), (oX6 p0 p1 p2 p3 p4 (nI w)), (aI g p3 6 st), (oX1 v0 v1 v2 v3 ww dg), (aI g v1 3 wo), (aI g v2 3 he_), (aI g v3 3 pf)] (fun (r : Int32) (u : Int32 × (Nat → Int32) × (Nat → Int32) × (Nat → Int32)) => r = nI (leN (foC Wr (allN (if 3 < w then 3 else w)) a d))) (fun (u : Int32 × (Nat → Int32) × (Nat → Int32) × (Nat → Int32)) => [(oX10 x0 y0 ta z0 p0 dr pa to_ s0 im ki tr v0 rf), (oX6 p0 p1 p2 p3 p4 (nI w)), (aI g p3 6 st), (oX1 v0 v1 v2 v3 (nI (if 3 < w then 3 else w)) u.1), (aI g v1 3 u.2.1), (aI g v2 3 u.2.2.1), (aI g v3 3 u.2.2.2)]) := by
  refine he_begin (l := l) (g := g) (y := yX10_earnest) (wl := wsX10_earnest) (fr := 3) (lo := 74) (mc := 0) (ms := 0) (av := [.ref x0, .int (nI a), .int (nI d), .int 0]) (ws := [(oX10 x0 y0 ta z0 p0 dr pa to_ s0 im ki tr v0 rf), (oX6 p0 p1 p2 p3 p4 (nI w)), (aI g p3 6 st), (oX1 v0 v1 v2 v3 ww dg), (aI g v1 3 wo), (aI g v2 3 he_), (aI g v3 3 pf)]) (cc := cX10_earnest) (maxL := 4) (ret := (some .int)) (fun A => va_Qi (fun (r : Int32) (u : Int32 × (Nat → Int32) × (Nat → Int32) × (Nat → Int32)) => r = nI (leN (foC Wr (allN (if 3 < w then 3 else w)) a d))) (fun u t => he_post g A ((fun (u : Int32 × (Nat → Int32) × (Nat → Int32) × (Nat → Int32)) => [(oX10 x0 y0 ta z0 p0 dr pa to_ s0 im ki tr v0 rf), (oX6 p0 p1 p2 p3 p4 (nI w)), (aI g p3 6 st), (oX1 v0 v1 v2 v3 (nI (if 3 < w then 3 else w)) u.1), (aI g v1 3 u.2.1), (aI g v2 3 u.2.2.1), (aI g v3 3 u.2.2.2)]) u) t) A) (by decide) rfl (Nat.le_of_ble_eq_true rfl) ?_
  intro p e s m args below meth c A ls H locs Q hQ hB
  obtain ⟨hx, hb, hr, hml, hown, hts, hlk, hin, hP, hK, hD, hS, hA, hE, hl⟩ := hB
  have hl : lv_has ls 4 [(0, .ref x0), (1, .int (nI a)), (2, .int (nI d)), (3, .int 0)] := hl
  have f57 := hts (.fieldLink RX10 57 "HiredEnemy" "battle" "LHiredEnemy$Battle;") (iwoX10_earnest (k := 0) rfl)
  have inX10 : ∀ w ∈ wsX100, w ∈ wsX10_earnest := innX10_earnest_X10
  have f23 := hts (.fieldLink RX10 23 "HiredEnemy" "plan" "LHiredEnemy$Plan;") (iwoX10_earnest (k := 1) rfl)
  refine lv_aload_n hx hb dX10_earnest_0 rfl (lv_at hl 0 rfl) ?_
  refine lv_iload_n hx hb dX10_earnest_1 rfl (lv_at hl 1 rfl) ?_
  refine lv_iconst (v := 0) hx hb dX10_earnest_2 (by decide) ?_
  refine lv_bipush (v := 6) hx hb dX10_earnest_3 (by decide) ?_
  refine he_ci (wc := []) (wr := [(oX10 x0 y0 ta z0 p0 dr pa to_ s0 im ki tr v0 rf), (oX6 p0 p1 p2 p3 p4 (nI w)), (aI g p3 6 st), (oX1 v0 v1 v2 v3 ww dg), (aI g v1 3 wo), (aI g v2 3 he_), (aI g v3 3 pf)]) (va_runS (As := [.int (nI a), .int 0, .int 6]) (rest := [.ref x0]) ⟨hx, hb, hml, hown, hts⟩ (c_X10_within l g (nI a) 0 6 H.size) (va_cwS 3 hts gX10_earnest_X10_within rfl rfl rfl (by decide +kernel) ⟨Nat.le_of_ble_eq_true rfl, Nat.le_of_ble_eq_true rfl⟩) (he_preS (wc := []) hK hP hD hS hA hE [] rfl rfl) rfl rfl hl.1 rfl (lv_room (Nat.le_of_ble_eq_true rfl)) dX10_earnest_5 ⟨(Nat.le_of_ble_eq_true rfl), (Nat.le_of_ble_eq_true rfl)⟩) hP hD hS hA [] [0, 1, 2, 3, 4, 5, 6] rfl rfl rfl (by decide) (fun r_1 u_2 H locs h_3 hP hD hS => ?_)
  subst h_3
  have hP : va_P g.1 vwCl [(oX10 x0 y0 ta z0 p0 dr pa to_ s0 im ki tr v0 rf), (oX6 p0 p1 p2 p3 p4 (nI w)), (aI g p3 6 st), (oX1 v0 v1 v2 v3 ww dg), (aI g v1 3 wo), (aI g v2 3 he_), (aI g v3 3 pf)] H := hP
  have hD : va_D A [(oX10 x0 y0 ta z0 p0 dr pa to_ s0 im ki tr v0 rf), (oX6 p0 p1 p2 p3 p4 (nI w)), (aI g p3 6 st), (oX1 v0 v1 v2 v3 ww dg), (aI g v1 3 wo), (aI g v2 3 he_), (aI g v3 3 pf)] := hD
  refine he_top (1) (he_within_in (a0 := 0) (B := 6) rfl rfl (by omega) (by omega) (by decide)) ?_
  refine lv_if_eq (tgt := 34) hx hb dX10_earnest_8 (by decide) (fun c_4 => ?_) (fun c_4 => ?_)
  · exact absurd c_4 (by decide)
  · refine lv_iload_n hx hb dX10_earnest_11 rfl (lv_at hl 2 rfl) ?_
    refine lv_iconst (v := 0) hx hb dX10_earnest_12 (by decide) ?_
    refine lv_bipush (v := 6) hx hb dX10_earnest_13 (by decide) ?_
    refine he_ci (wc := []) (wr := [(oX10 x0 y0 ta z0 p0 dr pa to_ s0 im ki tr v0 rf), (oX6 p0 p1 p2 p3 p4 (nI w)), (aI g p3 6 st), (oX1 v0 v1 v2 v3 ww dg), (aI g v1 3 wo), (aI g v2 3 he_), (aI g v3 3 pf)]) (va_runS (As := [.int (nI d), .int 0, .int 6]) (rest := [.ref x0]) ⟨hx, hb, hml, hown, hts⟩ (c_X10_within l g (nI d) 0 6 H.size) (va_cwS 3 hts gX10_earnest_X10_within rfl rfl rfl (by decide +kernel) ⟨Nat.le_of_ble_eq_true rfl, Nat.le_of_ble_eq_true rfl⟩) (he_preS (wc := []) hK hP hD hS hA hE [] rfl rfl) rfl rfl hl.1 rfl (lv_room (Nat.le_of_ble_eq_true rfl)) dX10_earnest_15 ⟨(Nat.le_of_ble_eq_true rfl), (Nat.le_of_ble_eq_true rfl)⟩) hP hD hS hA [] [0, 1, 2, 3, 4, 5, 6] rfl rfl rfl (by decide) (fun r_5 u_6 H locs h_7 hP hD hS => ?_)
    subst h_7
    have hP : va_P g.1 vwCl [(oX10 x0 y0 ta z0 p0 dr pa to_ s0 im ki tr v0 rf), (oX6 p0 p1 p2 p3 p4 (nI w)), (aI g p3 6 st), (oX1 v0 v1 v2 v3 ww dg), (aI g v1 3 wo), (aI g v2 3 he_), (aI g v3 3 pf)] H := hP
    have hD : va_D A [(oX10 x0 y0 ta z0 p0 dr pa to_ s0 im ki tr v0 rf), (oX6 p0 p1 p2 p3 p4 (nI w)), (aI g p3 6 st), (oX1 v0 v1 v2 v3 ww dg), (aI g v1 3 wo), (aI g v2 3 he_), (aI g v3 3 pf)] := hD
    refine he_top (1) (he_within_in (a0 := 0) (B := 6) rfl rfl (by omega) (by omega) (by decide)) ?_
    refine lv_if_eq (tgt := 34) hx hb dX10_earnest_18 (by decide) (fun c_8 => ?_) (fun c_8 => ?_)
    · exact absurd c_8 (by decide)
    · refine lv_iload_n hx hb dX10_earnest_21 rfl (lv_at hl 3 rfl) ?_
      refine lv_iconst (v := 0) hx hb dX10_earnest_22 (by decide) ?_
      refine lv_iconst (v := 1) hx hb dX10_earnest_23 (by decide) ?_
      refine he_ci (wc := []) (wr := [(oX10 x0 y0 ta z0 p0 dr pa to_ s0 im ki tr v0 rf), (oX6 p0 p1 p2 p3 p4 (nI w)), (aI g p3 6 st), (oX1 v0 v1 v2 v3 ww dg), (aI g v1 3 wo), (aI g v2 3 he_), (aI g v3 3 pf)]) (va_runS (As := [.int 0, .int 0, .int 1]) (rest := [.ref x0]) ⟨hx, hb, hml, hown, hts⟩ (c_X10_within l g 0 0 1 H.size) (va_cwS 3 hts gX10_earnest_X10_within rfl rfl rfl (by decide +kernel) ⟨Nat.le_of_ble_eq_true rfl, Nat.le_of_ble_eq_true rfl⟩) (he_preS (wc := []) hK hP hD hS hA hE [] rfl rfl) rfl rfl hl.1 rfl (lv_room (Nat.le_of_ble_eq_true rfl)) dX10_earnest_24 ⟨(Nat.le_of_ble_eq_true rfl), (Nat.le_of_ble_eq_true rfl)⟩) hP hD hS hA [] [0, 1, 2, 3, 4, 5, 6] rfl rfl rfl (by decide) (fun r_9 u_10 H locs h_11 hP hD hS => ?_)
      subst h_11
      have hP : va_P g.1 vwCl [(oX10 x0 y0 ta z0 p0 dr pa to_ s0 im ki tr v0 rf), (oX6 p0 p1 p2 p3 p4 (nI w)), (aI g p3 6 st), (oX1 v0 v1 v2 v3 ww dg), (aI g v1 3 wo), (aI g v2 3 he_), (aI g v3 3 pf)] H := hP
      have hD : va_D A [(oX10 x0 y0 ta z0 p0 dr pa to_ s0 im ki tr v0 rf), (oX6 p0 p1 p2 p3 p4 (nI w)), (aI g p3 6 st), (oX1 v0 v1 v2 v3 ww dg), (aI g v1 3 wo), (aI g v2 3 he_), (aI g v3 3 pf)] := hD
      refine he_top (1) (by decide) ?_
      refine lv_if_eq (tgt := 34) hx hb dX10_earnest_27 (by decide) (fun c_12 => ?_) (fun c_12 => ?_)
      · exact absurd c_12 (by decide)
      · refine lv_iconst (v := 1) hx hb dX10_earnest_30 (by decide) ?_
        refine lv_goto (tgt := 35) hx hb dX10_earnest_31 (by decide) ?_
        refine he_cv (wc := []) (wr := [(oX10 x0 y0 ta z0 p0 dr pa to_ s0 im ki tr v0 rf), (oX6 p0 p1 p2 p3 p4 (nI w)), (aI g p3 6 st), (oX1 v0 v1 v2 v3 ww dg), (aI g v1 3 wo), (aI g v2 3 he_), (aI g v3 3 pf)]) (va_runV (As := [.int 1]) (rest := []) ⟨hx, hb, hml, hown, hts⟩ (c_X10_demand1 l g x0 H.size) (cwV 1 hts gX10_earnest_X10_demand rfl rfl rfl (by decide +kernel) ⟨Nat.le_of_ble_eq_true rfl, Nat.le_of_ble_eq_true rfl⟩) (he_preV (wc := []) hK hP hD hS hA hE [] rfl rfl 0 rfl rfl) rfl rfl hl.1 rfl (lv_room (Nat.le_of_ble_eq_true rfl)) dX10_earnest_35 ⟨(Nat.le_of_ble_eq_true rfl), (Nat.le_of_ble_eq_true rfl)⟩) hP hD hS hA [] [0, 1, 2, 3, 4, 5, 6] rfl rfl rfl (by decide) (fun u_14 H locs h_15 hP hD hS => ?_)
        have hP : va_P g.1 vwCl [(oX10 x0 y0 ta z0 p0 dr pa to_ s0 im ki tr v0 rf), (oX6 p0 p1 p2 p3 p4 (nI w)), (aI g p3 6 st), (oX1 v0 v1 v2 v3 ww dg), (aI g v1 3 wo), (aI g v2 3 he_), (aI g v3 3 pf)] H := hP
        have hD : va_D A [(oX10 x0 y0 ta z0 p0 dr pa to_ s0 im ki tr v0 rf), (oX6 p0 p1 p2 p3 p4 (nI w)), (aI g p3 6 st), (oX1 v0 v1 v2 v3 ww dg), (aI g v1 3 wo), (aI g v2 3 he_), (aI g v3 3 pf)] := hD
        refine lv_aload_n hx hb dX10_earnest_38 rfl (lv_at hl 0 rfl) ?_
        refine va_get (v := .ref v0) (T := TX10) (N := 13) hx hb hts inX10 hown hK hP 0 rfl rfl 11 (by decide) f57 (fun _ h9 => h9) rfl dX10_earnest_39 ?_
        refine lv_aload_n hx hb dX10_earnest_42 rfl (lv_at hl 0 rfl) ?_
        refine va_get (v := .ref p0) (T := TX10) (N := 13) hx hb hts inX10 hown hK hP 0 rfl rfl 3 (by decide) f23 (fun _ h9 => h9) rfl dX10_earnest_43 ?_
        refine he_cv (wc := [(oX1 v0 v1 v2 v3 ww dg), (aI g v1 3 wo), (aI g v2 3 he_), (aI g v3 3 pf), (oX6 p0 p1 p2 p3 p4 (nI w)), (aI g p3 6 st)]) (wr := [(oX10 x0 y0 ta z0 p0 dr pa to_ s0 im ki tr v0 rf)]) (va_runV (As := [.ref p0]) (rest := []) ⟨hx, hb, hml, hown, hts⟩ (s_X1_prepare l g v0 v1 v2 v3 ww dg wo he_ pf p0 p1 p2 p3 p4 w st Wr (by first | assumption | decide | omega) (by first | assumption | decide | omega) (by first | assumption | decide | omega) H.size) (cwV 1 hts gX10_earnest_X1_prepare rfl rfl rfl (by decide +kernel) ⟨Nat.le_of_ble_eq_true rfl, Nat.le_of_ble_eq_true rfl⟩) (he_preV (wc := [(oX1 v0 v1 v2 v3 ww dg), (aI g v1 3 wo), (aI g v2 3 he_), (aI g v3 3 pf), (oX6 p0 p1 p2 p3 p4 (nI w)), (aI g p3 6 st)]) hK hP hD hS hA hE [3, 4, 5, 6, 1, 2] rfl rfl 3 rfl rfl) rfl rfl hl.1 rfl (lv_room (Nat.le_of_ble_eq_true rfl)) dX10_earnest_46 ⟨(Nat.le_of_ble_eq_true rfl), (Nat.le_of_ble_eq_true rfl)⟩) hP hD hS hA [3, 4, 5, 6, 1, 2] [0] rfl rfl rfl (by decide) (fun u_17 H locs h_18 hP hD hS => ?_)
        obtain ⟨uo_19, uh_20⟩ := u_17
        try dsimp only at h_18
        have hf_21 := h_18
        have hP : va_P g.1 vwCl [(oX10 x0 y0 ta z0 p0 dr pa to_ s0 im ki tr v0 rf), (oX1 v0 v1 v2 v3 (nI (if 3 < w then 3 else w)) dg), (aI g v1 3 uo_19), (aI g v2 3 uh_20), (aI g v3 3 pf), (oX6 p0 p1 p2 p3 p4 (nI w)), (aI g p3 6 st)] H := hP
        have hD : va_D A [(oX10 x0 y0 ta z0 p0 dr pa to_ s0 im ki tr v0 rf), (oX1 v0 v1 v2 v3 (nI (if 3 < w then 3 else w)) dg), (aI g v1 3 uo_19), (aI g v2 3 uh_20), (aI g v3 3 pf), (oX6 p0 p1 p2 p3 p4 (nI w)), (aI g p3 6 st)] := hD
        have hv9 := v3_le w
        have h79 := all_7 hv9
        refine lv_iload_n hx hb dX10_earnest_49 rfl (lv_at hl 3 rfl) ?_
        refine lv_if_ne (tgt := 72) hx hb dX10_earnest_50 (by decide) (fun c_22 => ?_) (fun c_22 => ?_)
        · exact absurd (by decide) c_22
        · refine lv_aload_n hx hb dX10_earnest_53 rfl (lv_at hl 0 rfl) ?_
          refine va_get (v := .ref v0) (T := TX10) (N := 13) hx hb hts inX10 hown hK hP 0 rfl rfl 11 (by decide) f57 (fun _ h9 => h9) rfl dX10_earnest_54 ?_
          refine lv_aload_n hx hb dX10_earnest_57 rfl (lv_at hl 0 rfl) ?_
          refine va_get (v := .ref v0) (T := TX10) (N := 13) hx hb hts inX10 hown hK hP 0 rfl rfl 11 (by decide) f57 (fun _ h9 => h9) rfl dX10_earnest_58 ?_
          refine he_ci (wc := [(oX1 v0 v1 v2 v3 (nI (if 3 < w then 3 else w)) dg), (aI g v1 3 uo_19), (aI g v2 3 uh_20), (aI g v3 3 pf)]) (wr := [(oX10 x0 y0 ta z0 p0 dr pa to_ s0 im ki tr v0 rf), (oX6 p0 p1 p2 p3 p4 (nI w)), (aI g p3 6 st)]) (va_runV (As := []) (rest := [.ref v0]) ⟨hx, hb, hml, hown, hts⟩ (g_X1_all l g v0 v1 v2 v3 (if 3 < w then 3 else w) dg uo_19 uh_20 pf (by first | assumption | decide | omega) H.size) (cwV 0 hts gX10_earnest_X1_all rfl rfl rfl (by decide +kernel) ⟨Nat.le_of_ble_eq_true rfl, Nat.le_of_ble_eq_true rfl⟩) (he_preV (wc := [(oX1 v0 v1 v2 v3 (nI (if 3 < w then 3 else w)) dg), (aI g v1 3 uo_19), (aI g v2 3 uh_20), (aI g v3 3 pf)]) hK hP hD hS hA hE [1, 2, 3, 4] rfl rfl 1 rfl rfl) rfl rfl hl.1 rfl (lv_room (Nat.le_of_ble_eq_true rfl)) dX10_earnest_61 ⟨(Nat.le_of_ble_eq_true rfl), (Nat.le_of_ble_eq_true rfl)⟩) hP hD hS hA [1, 2, 3, 4] [0, 5, 6] rfl rfl rfl (by decide) (fun r_23 u_24 H locs h_25 hP hD hS => ?_)
          subst h_25
          have hP : va_P g.1 vwCl [(oX10 x0 y0 ta z0 p0 dr pa to_ s0 im ki tr v0 rf), (oX6 p0 p1 p2 p3 p4 (nI w)), (aI g p3 6 st), (oX1 v0 v1 v2 v3 (nI (if 3 < w then 3 else w)) dg), (aI g v1 3 uo_19), (aI g v2 3 uh_20), (aI g v3 3 pf)] H := hP
          have hD : va_D A [(oX10 x0 y0 ta z0 p0 dr pa to_ s0 im ki tr v0 rf), (oX6 p0 p1 p2 p3 p4 (nI w)), (aI g p3 6 st), (oX1 v0 v1 v2 v3 (nI (if 3 < w then 3 else w)) dg), (aI g v1 3 uo_19), (aI g v2 3 uh_20), (aI g v3 3 pf)] := hD
          refine lv_iload_n hx hb dX10_earnest_64 rfl (lv_at hl 1 rfl) ?_
          refine lv_iload_n hx hb dX10_earnest_65 rfl (lv_at hl 2 rfl) ?_
          refine he_ci (wc := [(oX1 v0 v1 v2 v3 (nI (if 3 < w then 3 else w)) dg), (aI g v1 3 uo_19), (aI g v2 3 uh_20), (aI g v3 3 pf)]) (wr := [(oX10 x0 y0 ta z0 p0 dr pa to_ s0 im ki tr v0 rf), (oX6 p0 p1 p2 p3 p4 (nI w)), (aI g p3 6 st)]) (va_runV (As := [.int (nI (allN (if 3 < w then 3 else w))), .int (nI a), .int (nI d)]) (rest := []) ⟨hx, hb, hml, hown, hts⟩ (s_X1_safe l g v0 v1 v2 v3 (if 3 < w then 3 else w) dg uo_19 uh_20 pf Wr (allN (if 3 < w then 3 else w)) a d hv9 (by omega) (by first | assumption | decide | omega) (by first | assumption | decide | omega) (fun k9 h9 h8 => hf_21 k9 (bt_all _ (v3_le w) k9 h9 h8)) (by first | assumption | decide | omega) H.size) (cwV 3 hts gX10_earnest_X1_safe rfl rfl rfl (by decide +kernel) ⟨Nat.le_of_ble_eq_true rfl, Nat.le_of_ble_eq_true rfl⟩) (he_preV (wc := [(oX1 v0 v1 v2 v3 (nI (if 3 < w then 3 else w)) dg), (aI g v1 3 uo_19), (aI g v2 3 uh_20), (aI g v3 3 pf)]) hK hP hD hS hA hE [3, 4, 5, 6] rfl rfl 3 rfl rfl) rfl rfl hl.1 rfl (lv_room (Nat.le_of_ble_eq_true rfl)) dX10_earnest_66 ⟨(Nat.le_of_ble_eq_true rfl), (Nat.le_of_ble_eq_true rfl)⟩) hP hD hS hA [3, 4, 5, 6] [0, 1, 2] rfl rfl rfl (by decide) (fun r_26 u_27 H locs h_28 hP hD hS => ?_)
          obtain ⟨ud_29, uf_30⟩ := u_27
          try dsimp only at h_28
          obtain ⟨rfl, hf_31⟩ := h_28
          have hP : va_P g.1 vwCl [(oX10 x0 y0 ta z0 p0 dr pa to_ s0 im ki tr v0 rf), (oX6 p0 p1 p2 p3 p4 (nI w)), (aI g p3 6 st), (oX1 v0 v1 v2 v3 (nI (if 3 < w then 3 else w)) ud_29), (aI g v1 3 uo_19), (aI g v2 3 uh_20), (aI g v3 3 uf_30)] H := hP
          have hD : va_D A [(oX10 x0 y0 ta z0 p0 dr pa to_ s0 im ki tr v0 rf), (oX6 p0 p1 p2 p3 p4 (nI w)), (aI g p3 6 st), (oX1 v0 v1 v2 v3 (nI (if 3 < w then 3 else w)) ud_29), (aI g v1 3 uo_19), (aI g v2 3 uh_20), (aI g v3 3 uf_30)] := hD
          refine lv_goto (tgt := 81) hx hb dX10_earnest_69 (by decide) ?_
          exact he_ri hQ hx hb hr hlk hP hD hS dX10_earnest_81 (Nat.le_of_ble_eq_true rfl) (Nat.le_of_ble_eq_true rfl) ((ud_29, uo_19, uh_20, uf_30)) (rfl) (rfl)
set_option maxHeartbeats 4000000 in
set_option maxRecDepth 100000 in
theorem s_X10_earnest1 (l : Launch) (g : he_G) (x0 : Nat) (y0 : Nat) (z0 : Nat) (dr : Nat) (pa : Nat) (s0 : Nat) (im : Nat) (tr : Nat) (v0 : Nat) (rf : Nat) (ta : Int32) (to_ : Int32) (ki : Int32) (p0 : Nat) (p1 : Nat) (p2 : Nat) (p3 : Nat) (p4 : Nat) (w : Nat) (st : Nat → Int32) (v1 : Nat) (v2 : Nat) (v3 : Nat) (ww : Int32) (dg : Int32) (wo : Nat → Int32) (he_ : Nat → Int32) (pf : Nat → Int32) (a : Nat) (d : Nat) (Wr : Nat → Nat) (hw6 : w ≤ 6) (ha6 : a ≤ 6) (hd6 : d ≤ 6) (hst : ∀ k, k < w → st k = nI (Wr k)) (hW9 : ∀ k, Wr k ≤ 99) : he_I l yX10_earnest wsX10_earnest 4 85 0 0 g [.ref x0, .int (nI a), .int (nI d), .int 1] [(oX10 x0 y0 ta z0 p0 dr pa to_ s0 im ki tr v0 rf), (oX6 p0 p1 p2 p3 p4 (nI w)), (aI g p3 6 st), (oX1 v0 v1 v2 v3 ww dg), (aI g v1 3 wo), (aI g v2 3 he_), (aI g v3 3 pf)] (fun (r : Int32) (u : Int32 × (Nat → Int32) × (Nat → Int32) × (Nat → Int32)) => r = nI (moC Wr (allN (if 3 < w then 3 else w)) a d)) (fun (u : Int32 × (Nat → Int32) × (Nat → Int32) × (Nat → Int32)) => [(oX10 x0 y0 ta z0 p0 dr pa to_ s0 im ki tr v0 rf), (oX6 p0 p1 p2 p3 p4 (nI w)), (aI g p3 6 st), (oX1 v0 v1 v2 v3 (nI (if 3 < w then 3 else w)) u.1), (aI g v1 3 u.2.1), (aI g v2 3 u.2.2.1), (aI g v3 3 u.2.2.2)]) := by
  refine he_begin (l := l) (g := g) (y := yX10_earnest) (wl := wsX10_earnest) (fr := 4) (lo := 85) (mc := 0) (ms := 0) (av := [.ref x0, .int (nI a), .int (nI d), .int 1]) (ws := [(oX10 x0 y0 ta z0 p0 dr pa to_ s0 im ki tr v0 rf), (oX6 p0 p1 p2 p3 p4 (nI w)), (aI g p3 6 st), (oX1 v0 v1 v2 v3 ww dg), (aI g v1 3 wo), (aI g v2 3 he_), (aI g v3 3 pf)]) (cc := cX10_earnest) (maxL := 4) (ret := (some .int)) (fun A => va_Qi (fun (r : Int32) (u : Int32 × (Nat → Int32) × (Nat → Int32) × (Nat → Int32)) => r = nI (moC Wr (allN (if 3 < w then 3 else w)) a d)) (fun u t => he_post g A ((fun (u : Int32 × (Nat → Int32) × (Nat → Int32) × (Nat → Int32)) => [(oX10 x0 y0 ta z0 p0 dr pa to_ s0 im ki tr v0 rf), (oX6 p0 p1 p2 p3 p4 (nI w)), (aI g p3 6 st), (oX1 v0 v1 v2 v3 (nI (if 3 < w then 3 else w)) u.1), (aI g v1 3 u.2.1), (aI g v2 3 u.2.2.1), (aI g v3 3 u.2.2.2)]) u) t) A) (by decide) rfl (Nat.le_of_ble_eq_true rfl) ?_
  intro p e s m args below meth c A ls H locs Q hQ hB
  obtain ⟨hx, hb, hr, hml, hown, hts, hlk, hin, hP, hK, hD, hS, hA, hE, hl⟩ := hB
  have hl : lv_has ls 4 [(0, .ref x0), (1, .int (nI a)), (2, .int (nI d)), (3, .int 1)] := hl
  have f57 := hts (.fieldLink RX10 57 "HiredEnemy" "battle" "LHiredEnemy$Battle;") (iwoX10_earnest (k := 0) rfl)
  have inX10 : ∀ w ∈ wsX100, w ∈ wsX10_earnest := innX10_earnest_X10
  have f23 := hts (.fieldLink RX10 23 "HiredEnemy" "plan" "LHiredEnemy$Plan;") (iwoX10_earnest (k := 1) rfl)
  refine lv_aload_n hx hb dX10_earnest_0 rfl (lv_at hl 0 rfl) ?_
  refine lv_iload_n hx hb dX10_earnest_1 rfl (lv_at hl 1 rfl) ?_
  refine lv_iconst (v := 0) hx hb dX10_earnest_2 (by decide) ?_
  refine lv_bipush (v := 6) hx hb dX10_earnest_3 (by decide) ?_
  refine he_ci (wc := []) (wr := [(oX10 x0 y0 ta z0 p0 dr pa to_ s0 im ki tr v0 rf), (oX6 p0 p1 p2 p3 p4 (nI w)), (aI g p3 6 st), (oX1 v0 v1 v2 v3 ww dg), (aI g v1 3 wo), (aI g v2 3 he_), (aI g v3 3 pf)]) (va_runS (As := [.int (nI a), .int 0, .int 6]) (rest := [.ref x0]) ⟨hx, hb, hml, hown, hts⟩ (c_X10_within l g (nI a) 0 6 H.size) (va_cwS 3 hts gX10_earnest_X10_within rfl rfl rfl (by decide +kernel) ⟨Nat.le_of_ble_eq_true rfl, Nat.le_of_ble_eq_true rfl⟩) (he_preS (wc := []) hK hP hD hS hA hE [] rfl rfl) rfl rfl hl.1 rfl (lv_room (Nat.le_of_ble_eq_true rfl)) dX10_earnest_5 ⟨(Nat.le_of_ble_eq_true rfl), (Nat.le_of_ble_eq_true rfl)⟩) hP hD hS hA [] [0, 1, 2, 3, 4, 5, 6] rfl rfl rfl (by decide) (fun r_1 u_2 H locs h_3 hP hD hS => ?_)
  subst h_3
  have hP : va_P g.1 vwCl [(oX10 x0 y0 ta z0 p0 dr pa to_ s0 im ki tr v0 rf), (oX6 p0 p1 p2 p3 p4 (nI w)), (aI g p3 6 st), (oX1 v0 v1 v2 v3 ww dg), (aI g v1 3 wo), (aI g v2 3 he_), (aI g v3 3 pf)] H := hP
  have hD : va_D A [(oX10 x0 y0 ta z0 p0 dr pa to_ s0 im ki tr v0 rf), (oX6 p0 p1 p2 p3 p4 (nI w)), (aI g p3 6 st), (oX1 v0 v1 v2 v3 ww dg), (aI g v1 3 wo), (aI g v2 3 he_), (aI g v3 3 pf)] := hD
  refine he_top (1) (he_within_in (a0 := 0) (B := 6) rfl rfl (by omega) (by omega) (by decide)) ?_
  refine lv_if_eq (tgt := 34) hx hb dX10_earnest_8 (by decide) (fun c_4 => ?_) (fun c_4 => ?_)
  · exact absurd c_4 (by decide)
  · refine lv_iload_n hx hb dX10_earnest_11 rfl (lv_at hl 2 rfl) ?_
    refine lv_iconst (v := 0) hx hb dX10_earnest_12 (by decide) ?_
    refine lv_bipush (v := 6) hx hb dX10_earnest_13 (by decide) ?_
    refine he_ci (wc := []) (wr := [(oX10 x0 y0 ta z0 p0 dr pa to_ s0 im ki tr v0 rf), (oX6 p0 p1 p2 p3 p4 (nI w)), (aI g p3 6 st), (oX1 v0 v1 v2 v3 ww dg), (aI g v1 3 wo), (aI g v2 3 he_), (aI g v3 3 pf)]) (va_runS (As := [.int (nI d), .int 0, .int 6]) (rest := [.ref x0]) ⟨hx, hb, hml, hown, hts⟩ (c_X10_within l g (nI d) 0 6 H.size) (va_cwS 3 hts gX10_earnest_X10_within rfl rfl rfl (by decide +kernel) ⟨Nat.le_of_ble_eq_true rfl, Nat.le_of_ble_eq_true rfl⟩) (he_preS (wc := []) hK hP hD hS hA hE [] rfl rfl) rfl rfl hl.1 rfl (lv_room (Nat.le_of_ble_eq_true rfl)) dX10_earnest_15 ⟨(Nat.le_of_ble_eq_true rfl), (Nat.le_of_ble_eq_true rfl)⟩) hP hD hS hA [] [0, 1, 2, 3, 4, 5, 6] rfl rfl rfl (by decide) (fun r_5 u_6 H locs h_7 hP hD hS => ?_)
    subst h_7
    have hP : va_P g.1 vwCl [(oX10 x0 y0 ta z0 p0 dr pa to_ s0 im ki tr v0 rf), (oX6 p0 p1 p2 p3 p4 (nI w)), (aI g p3 6 st), (oX1 v0 v1 v2 v3 ww dg), (aI g v1 3 wo), (aI g v2 3 he_), (aI g v3 3 pf)] H := hP
    have hD : va_D A [(oX10 x0 y0 ta z0 p0 dr pa to_ s0 im ki tr v0 rf), (oX6 p0 p1 p2 p3 p4 (nI w)), (aI g p3 6 st), (oX1 v0 v1 v2 v3 ww dg), (aI g v1 3 wo), (aI g v2 3 he_), (aI g v3 3 pf)] := hD
    refine he_top (1) (he_within_in (a0 := 0) (B := 6) rfl rfl (by omega) (by omega) (by decide)) ?_
    refine lv_if_eq (tgt := 34) hx hb dX10_earnest_18 (by decide) (fun c_8 => ?_) (fun c_8 => ?_)
    · exact absurd c_8 (by decide)
    · refine lv_iload_n hx hb dX10_earnest_21 rfl (lv_at hl 3 rfl) ?_
      refine lv_iconst (v := 0) hx hb dX10_earnest_22 (by decide) ?_
      refine lv_iconst (v := 1) hx hb dX10_earnest_23 (by decide) ?_
      refine he_ci (wc := []) (wr := [(oX10 x0 y0 ta z0 p0 dr pa to_ s0 im ki tr v0 rf), (oX6 p0 p1 p2 p3 p4 (nI w)), (aI g p3 6 st), (oX1 v0 v1 v2 v3 ww dg), (aI g v1 3 wo), (aI g v2 3 he_), (aI g v3 3 pf)]) (va_runS (As := [.int 1, .int 0, .int 1]) (rest := [.ref x0]) ⟨hx, hb, hml, hown, hts⟩ (c_X10_within l g 1 0 1 H.size) (va_cwS 3 hts gX10_earnest_X10_within rfl rfl rfl (by decide +kernel) ⟨Nat.le_of_ble_eq_true rfl, Nat.le_of_ble_eq_true rfl⟩) (he_preS (wc := []) hK hP hD hS hA hE [] rfl rfl) rfl rfl hl.1 rfl (lv_room (Nat.le_of_ble_eq_true rfl)) dX10_earnest_24 ⟨(Nat.le_of_ble_eq_true rfl), (Nat.le_of_ble_eq_true rfl)⟩) hP hD hS hA [] [0, 1, 2, 3, 4, 5, 6] rfl rfl rfl (by decide) (fun r_9 u_10 H locs h_11 hP hD hS => ?_)
      subst h_11
      have hP : va_P g.1 vwCl [(oX10 x0 y0 ta z0 p0 dr pa to_ s0 im ki tr v0 rf), (oX6 p0 p1 p2 p3 p4 (nI w)), (aI g p3 6 st), (oX1 v0 v1 v2 v3 ww dg), (aI g v1 3 wo), (aI g v2 3 he_), (aI g v3 3 pf)] H := hP
      have hD : va_D A [(oX10 x0 y0 ta z0 p0 dr pa to_ s0 im ki tr v0 rf), (oX6 p0 p1 p2 p3 p4 (nI w)), (aI g p3 6 st), (oX1 v0 v1 v2 v3 ww dg), (aI g v1 3 wo), (aI g v2 3 he_), (aI g v3 3 pf)] := hD
      refine he_top (1) (by decide) ?_
      refine lv_if_eq (tgt := 34) hx hb dX10_earnest_27 (by decide) (fun c_12 => ?_) (fun c_12 => ?_)
      · exact absurd c_12 (by decide)
      · refine lv_iconst (v := 1) hx hb dX10_earnest_30 (by decide) ?_
        refine lv_goto (tgt := 35) hx hb dX10_earnest_31 (by decide) ?_
        refine he_cv (wc := []) (wr := [(oX10 x0 y0 ta z0 p0 dr pa to_ s0 im ki tr v0 rf), (oX6 p0 p1 p2 p3 p4 (nI w)), (aI g p3 6 st), (oX1 v0 v1 v2 v3 ww dg), (aI g v1 3 wo), (aI g v2 3 he_), (aI g v3 3 pf)]) (va_runV (As := [.int 1]) (rest := []) ⟨hx, hb, hml, hown, hts⟩ (c_X10_demand1 l g x0 H.size) (cwV 1 hts gX10_earnest_X10_demand rfl rfl rfl (by decide +kernel) ⟨Nat.le_of_ble_eq_true rfl, Nat.le_of_ble_eq_true rfl⟩) (he_preV (wc := []) hK hP hD hS hA hE [] rfl rfl 0 rfl rfl) rfl rfl hl.1 rfl (lv_room (Nat.le_of_ble_eq_true rfl)) dX10_earnest_35 ⟨(Nat.le_of_ble_eq_true rfl), (Nat.le_of_ble_eq_true rfl)⟩) hP hD hS hA [] [0, 1, 2, 3, 4, 5, 6] rfl rfl rfl (by decide) (fun u_14 H locs h_15 hP hD hS => ?_)
        have hP : va_P g.1 vwCl [(oX10 x0 y0 ta z0 p0 dr pa to_ s0 im ki tr v0 rf), (oX6 p0 p1 p2 p3 p4 (nI w)), (aI g p3 6 st), (oX1 v0 v1 v2 v3 ww dg), (aI g v1 3 wo), (aI g v2 3 he_), (aI g v3 3 pf)] H := hP
        have hD : va_D A [(oX10 x0 y0 ta z0 p0 dr pa to_ s0 im ki tr v0 rf), (oX6 p0 p1 p2 p3 p4 (nI w)), (aI g p3 6 st), (oX1 v0 v1 v2 v3 ww dg), (aI g v1 3 wo), (aI g v2 3 he_), (aI g v3 3 pf)] := hD
        refine lv_aload_n hx hb dX10_earnest_38 rfl (lv_at hl 0 rfl) ?_
        refine va_get (v := .ref v0) (T := TX10) (N := 13) hx hb hts inX10 hown hK hP 0 rfl rfl 11 (by decide) f57 (fun _ h9 => h9) rfl dX10_earnest_39 ?_
        refine lv_aload_n hx hb dX10_earnest_42 rfl (lv_at hl 0 rfl) ?_
        refine va_get (v := .ref p0) (T := TX10) (N := 13) hx hb hts inX10 hown hK hP 0 rfl rfl 3 (by decide) f23 (fun _ h9 => h9) rfl dX10_earnest_43 ?_
        refine he_cv (wc := [(oX1 v0 v1 v2 v3 ww dg), (aI g v1 3 wo), (aI g v2 3 he_), (aI g v3 3 pf), (oX6 p0 p1 p2 p3 p4 (nI w)), (aI g p3 6 st)]) (wr := [(oX10 x0 y0 ta z0 p0 dr pa to_ s0 im ki tr v0 rf)]) (va_runV (As := [.ref p0]) (rest := []) ⟨hx, hb, hml, hown, hts⟩ (s_X1_prepare l g v0 v1 v2 v3 ww dg wo he_ pf p0 p1 p2 p3 p4 w st Wr (by first | assumption | decide | omega) (by first | assumption | decide | omega) (by first | assumption | decide | omega) H.size) (cwV 1 hts gX10_earnest_X1_prepare rfl rfl rfl (by decide +kernel) ⟨Nat.le_of_ble_eq_true rfl, Nat.le_of_ble_eq_true rfl⟩) (he_preV (wc := [(oX1 v0 v1 v2 v3 ww dg), (aI g v1 3 wo), (aI g v2 3 he_), (aI g v3 3 pf), (oX6 p0 p1 p2 p3 p4 (nI w)), (aI g p3 6 st)]) hK hP hD hS hA hE [3, 4, 5, 6, 1, 2] rfl rfl 3 rfl rfl) rfl rfl hl.1 rfl (lv_room (Nat.le_of_ble_eq_true rfl)) dX10_earnest_46 ⟨(Nat.le_of_ble_eq_true rfl), (Nat.le_of_ble_eq_true rfl)⟩) hP hD hS hA [3, 4, 5, 6, 1, 2] [0] rfl rfl rfl (by decide) (fun u_17 H locs h_18 hP hD hS => ?_)
        obtain ⟨uo_19, uh_20⟩ := u_17
        try dsimp only at h_18
        have hf_21 := h_18
        have hP : va_P g.1 vwCl [(oX10 x0 y0 ta z0 p0 dr pa to_ s0 im ki tr v0 rf), (oX1 v0 v1 v2 v3 (nI (if 3 < w then 3 else w)) dg), (aI g v1 3 uo_19), (aI g v2 3 uh_20), (aI g v3 3 pf), (oX6 p0 p1 p2 p3 p4 (nI w)), (aI g p3 6 st)] H := hP
        have hD : va_D A [(oX10 x0 y0 ta z0 p0 dr pa to_ s0 im ki tr v0 rf), (oX1 v0 v1 v2 v3 (nI (if 3 < w then 3 else w)) dg), (aI g v1 3 uo_19), (aI g v2 3 uh_20), (aI g v3 3 pf), (oX6 p0 p1 p2 p3 p4 (nI w)), (aI g p3 6 st)] := hD
        have hv9 := v3_le w
        have h79 := all_7 hv9
        refine lv_iload_n hx hb dX10_earnest_49 rfl (lv_at hl 3 rfl) ?_
        refine lv_if_ne (tgt := 72) hx hb dX10_earnest_50 (by decide) (fun c_22 => ?_) (fun c_22 => ?_)
        · refine lv_aload_n hx hb dX10_earnest_72 rfl (lv_at hl 0 rfl) ?_
          refine va_get (v := .ref v0) (T := TX10) (N := 13) hx hb hts inX10 hown hK hP 0 rfl rfl 11 (by decide) f57 (fun _ h9 => h9) rfl dX10_earnest_73 ?_
          refine lv_iload_n hx hb dX10_earnest_76 rfl (lv_at hl 1 rfl) ?_
          refine lv_iload_n hx hb dX10_earnest_77 rfl (lv_at hl 2 rfl) ?_
          refine he_ci (wc := [(oX1 v0 v1 v2 v3 (nI (if 3 < w then 3 else w)) dg), (aI g v1 3 uo_19), (aI g v2 3 uh_20), (aI g v3 3 pf)]) (wr := [(oX10 x0 y0 ta z0 p0 dr pa to_ s0 im ki tr v0 rf), (oX6 p0 p1 p2 p3 p4 (nI w)), (aI g p3 6 st)]) (va_runV (As := [.int (nI a), .int (nI d)]) (rest := []) ⟨hx, hb, hml, hown, hts⟩ (s_X1_sure l g v0 v1 v2 v3 (if 3 < w then 3 else w) dg uo_19 uh_20 pf Wr a d hv9 ha6 hd6 (fun k9 h9 h8 => hf_21 k9 (bt_all _ (v3_le w) k9 h9 h8)) (by first | assumption | decide | omega) H.size) (cwV 2 hts gX10_earnest_X1_sure rfl rfl rfl (by decide +kernel) ⟨Nat.le_of_ble_eq_true rfl, Nat.le_of_ble_eq_true rfl⟩) (he_preV (wc := [(oX1 v0 v1 v2 v3 (nI (if 3 < w then 3 else w)) dg), (aI g v1 3 uo_19), (aI g v2 3 uh_20), (aI g v3 3 pf)]) hK hP hD hS hA hE [1, 2, 3, 4] rfl rfl 1 rfl rfl) rfl rfl hl.1 rfl (lv_room (Nat.le_of_ble_eq_true rfl)) dX10_earnest_78 ⟨(Nat.le_of_ble_eq_true rfl), (Nat.le_of_ble_eq_true rfl)⟩) hP hD hS hA [1, 2, 3, 4] [0, 5, 6] rfl rfl rfl (by decide) (fun r_23 u_24 H locs h_25 hP hD hS => ?_)
          obtain ⟨uf_26, rfl⟩ : ∃ z, z = u_24 := ⟨_, rfl⟩
          subst h_25
          have hP : va_P g.1 vwCl [(oX10 x0 y0 ta z0 p0 dr pa to_ s0 im ki tr v0 rf), (oX6 p0 p1 p2 p3 p4 (nI w)), (aI g p3 6 st), (oX1 v0 v1 v2 v3 (nI (if 3 < w then 3 else w)) dg), (aI g v1 3 uo_19), (aI g v2 3 uh_20), (aI g v3 3 uf_26)] H := hP
          have hD : va_D A [(oX10 x0 y0 ta z0 p0 dr pa to_ s0 im ki tr v0 rf), (oX6 p0 p1 p2 p3 p4 (nI w)), (aI g p3 6 st), (oX1 v0 v1 v2 v3 (nI (if 3 < w then 3 else w)) dg), (aI g v1 3 uo_19), (aI g v2 3 uh_20), (aI g v3 3 uf_26)] := hD
          exact he_ri hQ hx hb hr hlk hP hD hS dX10_earnest_81 (Nat.le_of_ble_eq_true rfl) (Nat.le_of_ble_eq_true rfl) ((dg, uo_19, uh_20, uf_26)) (rfl) (rfl)
        · exact absurd c_22 (by decide)
set_option maxHeartbeats 4000000 in
set_option maxRecDepth 100000 in
theorem s_X10_stands (l : Launch) (g : he_G) (x0 : Nat) (y0 : Nat) (z0 : Nat) (dr : Nat) (pa : Nat) (s0 : Nat) (im : Nat) (tr : Nat) (v0 : Nat) (rf : Nat) (ta : Int32) (to_ : Int32) (ki : Int32) (p0 : Nat) (p1 : Nat) (p2 : Nat) (p3 : Nat) (p4 : Nat) (w : Nat) (st : Nat → Int32) (v1 : Nat) (v2 : Nat) (v3 : Nat) (ww : Int32) (dg : Int32) (wo : Nat → Int32) (he_ : Nat → Int32) (pf : Nat → Int32) (a : Nat) (d : Nat) (Wr : Nat → Nat) (hw6 : w ≤ 6) (ha6 : a ≤ 6) (hd6 : d ≤ 6) (hst : ∀ k, k < w → st k = nI (Wr k)) (hW9 : ∀ k, Wr k ≤ 99) : he_I l yX10_stands wsX10_stands 3 74 0 0 g [.ref x0, .int (nI a), .int (nI d)] [(oX10 x0 y0 ta z0 p0 dr pa to_ s0 im ki tr v0 rf), (oX6 p0 p1 p2 p3 p4 (nI w)), (aI g p3 6 st), (oX1 v0 v1 v2 v3 ww dg), (aI g v1 3 wo), (aI g v2 3 he_), (aI g v3 3 pf)] (fun (r : Int32) (u : Int32 × (Nat → Int32) × (Nat → Int32) × (Nat → Int32)) => r = nI (dsN (dgt (roN (foC Wr (allN (if 3 < w then 3 else w)) a d))) (if 3 < w then 3 else w))) (fun (u : Int32 × (Nat → Int32) × (Nat → Int32) × (Nat → Int32)) => [(oX10 x0 y0 ta z0 p0 dr pa to_ s0 im ki tr v0 rf), (oX6 p0 p1 p2 p3 p4 (nI w)), (aI g p3 6 st), (oX1 v0 v1 v2 v3 (nI (if 3 < w then 3 else w)) u.1), (aI g v1 3 u.2.1), (aI g v2 3 u.2.2.1), (aI g v3 3 u.2.2.2)]) := by
  refine he_begin (l := l) (g := g) (y := yX10_stands) (wl := wsX10_stands) (fr := 3) (lo := 74) (mc := 0) (ms := 0) (av := [.ref x0, .int (nI a), .int (nI d)]) (ws := [(oX10 x0 y0 ta z0 p0 dr pa to_ s0 im ki tr v0 rf), (oX6 p0 p1 p2 p3 p4 (nI w)), (aI g p3 6 st), (oX1 v0 v1 v2 v3 ww dg), (aI g v1 3 wo), (aI g v2 3 he_), (aI g v3 3 pf)]) (cc := cX10_stands) (maxL := 3) (ret := (some .int)) (fun A => va_Qi (fun (r : Int32) (u : Int32 × (Nat → Int32) × (Nat → Int32) × (Nat → Int32)) => r = nI (dsN (dgt (roN (foC Wr (allN (if 3 < w then 3 else w)) a d))) (if 3 < w then 3 else w))) (fun u t => he_post g A ((fun (u : Int32 × (Nat → Int32) × (Nat → Int32) × (Nat → Int32)) => [(oX10 x0 y0 ta z0 p0 dr pa to_ s0 im ki tr v0 rf), (oX6 p0 p1 p2 p3 p4 (nI w)), (aI g p3 6 st), (oX1 v0 v1 v2 v3 (nI (if 3 < w then 3 else w)) u.1), (aI g v1 3 u.2.1), (aI g v2 3 u.2.2.1), (aI g v3 3 u.2.2.2)]) u) t) A) (by decide) rfl (Nat.le_of_ble_eq_true rfl) ?_
  intro p e s m args below meth c A ls H locs Q hQ hB
  obtain ⟨hx, hb, hr, hml, hown, hts, hlk, hin, hP, hK, hD, hS, hA, hE, hl⟩ := hB
  have hl : lv_has ls 3 [(0, .ref x0), (1, .int (nI a)), (2, .int (nI d))] := hl
  have f57 := hts (.fieldLink RX10 57 "HiredEnemy" "battle" "LHiredEnemy$Battle;") (iwoX10_stands (k := 0) rfl)
  have inX10 : ∀ w ∈ wsX100, w ∈ wsX10_stands := innX10_stands_X10
  have f23 := hts (.fieldLink RX10 23 "HiredEnemy" "plan" "LHiredEnemy$Plan;") (iwoX10_stands (k := 1) rfl)
  have f226 := hts (.fieldLink RX10 226 "HiredEnemy$Battle" "safeDigits" "I") (iwoX10_stands (k := 2) rfl)
  have inX1 : ∀ w ∈ wsX10, w ∈ wsX10_stands := innX10_stands_X1
  refine lv_aload_n hx hb dX10_stands_0 rfl (lv_at hl 0 rfl) ?_
  refine lv_iload_n hx hb dX10_stands_1 rfl (lv_at hl 1 rfl) ?_
  refine lv_iconst (v := 0) hx hb dX10_stands_2 (by decide) ?_
  refine lv_bipush (v := 6) hx hb dX10_stands_3 (by decide) ?_
  refine he_ci (wc := []) (wr := [(oX10 x0 y0 ta z0 p0 dr pa to_ s0 im ki tr v0 rf), (oX6 p0 p1 p2 p3 p4 (nI w)), (aI g p3 6 st), (oX1 v0 v1 v2 v3 ww dg), (aI g v1 3 wo), (aI g v2 3 he_), (aI g v3 3 pf)]) (va_runS (As := [.int (nI a), .int 0, .int 6]) (rest := [.ref x0]) ⟨hx, hb, hml, hown, hts⟩ (c_X10_within l g (nI a) 0 6 H.size) (va_cwS 3 hts gX10_stands_X10_within rfl rfl rfl (by decide +kernel) ⟨Nat.le_of_ble_eq_true rfl, Nat.le_of_ble_eq_true rfl⟩) (he_preS (wc := []) hK hP hD hS hA hE [] rfl rfl) rfl rfl hl.1 rfl (lv_room (Nat.le_of_ble_eq_true rfl)) dX10_stands_5 ⟨(Nat.le_of_ble_eq_true rfl), (Nat.le_of_ble_eq_true rfl)⟩) hP hD hS hA [] [0, 1, 2, 3, 4, 5, 6] rfl rfl rfl (by decide) (fun r_1 u_2 H locs h_3 hP hD hS => ?_)
  subst h_3
  have hP : va_P g.1 vwCl [(oX10 x0 y0 ta z0 p0 dr pa to_ s0 im ki tr v0 rf), (oX6 p0 p1 p2 p3 p4 (nI w)), (aI g p3 6 st), (oX1 v0 v1 v2 v3 ww dg), (aI g v1 3 wo), (aI g v2 3 he_), (aI g v3 3 pf)] H := hP
  have hD : va_D A [(oX10 x0 y0 ta z0 p0 dr pa to_ s0 im ki tr v0 rf), (oX6 p0 p1 p2 p3 p4 (nI w)), (aI g p3 6 st), (oX1 v0 v1 v2 v3 ww dg), (aI g v1 3 wo), (aI g v2 3 he_), (aI g v3 3 pf)] := hD
  refine he_top (1) (he_within_in (a0 := 0) (B := 6) rfl rfl (by omega) (by omega) (by decide)) ?_
  refine lv_if_eq (tgt := 25) hx hb dX10_stands_8 (by decide) (fun c_4 => ?_) (fun c_4 => ?_)
  · exact absurd c_4 (by decide)
  · refine lv_iload_n hx hb dX10_stands_11 rfl (lv_at hl 2 rfl) ?_
    refine lv_iconst (v := 0) hx hb dX10_stands_12 (by decide) ?_
    refine lv_bipush (v := 6) hx hb dX10_stands_13 (by decide) ?_
    refine he_ci (wc := []) (wr := [(oX10 x0 y0 ta z0 p0 dr pa to_ s0 im ki tr v0 rf), (oX6 p0 p1 p2 p3 p4 (nI w)), (aI g p3 6 st), (oX1 v0 v1 v2 v3 ww dg), (aI g v1 3 wo), (aI g v2 3 he_), (aI g v3 3 pf)]) (va_runS (As := [.int (nI d), .int 0, .int 6]) (rest := [.ref x0]) ⟨hx, hb, hml, hown, hts⟩ (c_X10_within l g (nI d) 0 6 H.size) (va_cwS 3 hts gX10_stands_X10_within rfl rfl rfl (by decide +kernel) ⟨Nat.le_of_ble_eq_true rfl, Nat.le_of_ble_eq_true rfl⟩) (he_preS (wc := []) hK hP hD hS hA hE [] rfl rfl) rfl rfl hl.1 rfl (lv_room (Nat.le_of_ble_eq_true rfl)) dX10_stands_15 ⟨(Nat.le_of_ble_eq_true rfl), (Nat.le_of_ble_eq_true rfl)⟩) hP hD hS hA [] [0, 1, 2, 3, 4, 5, 6] rfl rfl rfl (by decide) (fun r_5 u_6 H locs h_7 hP hD hS => ?_)
    subst h_7
    have hP : va_P g.1 vwCl [(oX10 x0 y0 ta z0 p0 dr pa to_ s0 im ki tr v0 rf), (oX6 p0 p1 p2 p3 p4 (nI w)), (aI g p3 6 st), (oX1 v0 v1 v2 v3 ww dg), (aI g v1 3 wo), (aI g v2 3 he_), (aI g v3 3 pf)] H := hP
    have hD : va_D A [(oX10 x0 y0 ta z0 p0 dr pa to_ s0 im ki tr v0 rf), (oX6 p0 p1 p2 p3 p4 (nI w)), (aI g p3 6 st), (oX1 v0 v1 v2 v3 ww dg), (aI g v1 3 wo), (aI g v2 3 he_), (aI g v3 3 pf)] := hD
    refine he_top (1) (he_within_in (a0 := 0) (B := 6) rfl rfl (by omega) (by omega) (by decide)) ?_
    refine lv_if_eq (tgt := 25) hx hb dX10_stands_18 (by decide) (fun c_8 => ?_) (fun c_8 => ?_)
    · exact absurd c_8 (by decide)
    · refine lv_iconst (v := 1) hx hb dX10_stands_21 (by decide) ?_
      refine lv_goto (tgt := 26) hx hb dX10_stands_22 (by decide) ?_
      refine he_cv (wc := []) (wr := [(oX10 x0 y0 ta z0 p0 dr pa to_ s0 im ki tr v0 rf), (oX6 p0 p1 p2 p3 p4 (nI w)), (aI g p3 6 st), (oX1 v0 v1 v2 v3 ww dg), (aI g v1 3 wo), (aI g v2 3 he_), (aI g v3 3 pf)]) (va_runV (As := [.int 1]) (rest := []) ⟨hx, hb, hml, hown, hts⟩ (c_X10_demand1 l g x0 H.size) (cwV 1 hts gX10_stands_X10_demand rfl rfl rfl (by decide +kernel) ⟨Nat.le_of_ble_eq_true rfl, Nat.le_of_ble_eq_true rfl⟩) (he_preV (wc := []) hK hP hD hS hA hE [] rfl rfl 0 rfl rfl) rfl rfl hl.1 rfl (lv_room (Nat.le_of_ble_eq_true rfl)) dX10_stands_26 ⟨(Nat.le_of_ble_eq_true rfl), (Nat.le_of_ble_eq_true rfl)⟩) hP hD hS hA [] [0, 1, 2, 3, 4, 5, 6] rfl rfl rfl (by decide) (fun u_10 H locs h_11 hP hD hS => ?_)
      have hP : va_P g.1 vwCl [(oX10 x0 y0 ta z0 p0 dr pa to_ s0 im ki tr v0 rf), (oX6 p0 p1 p2 p3 p4 (nI w)), (aI g p3 6 st), (oX1 v0 v1 v2 v3 ww dg), (aI g v1 3 wo), (aI g v2 3 he_), (aI g v3 3 pf)] H := hP
      have hD : va_D A [(oX10 x0 y0 ta z0 p0 dr pa to_ s0 im ki tr v0 rf), (oX6 p0 p1 p2 p3 p4 (nI w)), (aI g p3 6 st), (oX1 v0 v1 v2 v3 ww dg), (aI g v1 3 wo), (aI g v2 3 he_), (aI g v3 3 pf)] := hD
      refine lv_aload_n hx hb dX10_stands_29 rfl (lv_at hl 0 rfl) ?_
      refine va_get (v := .ref v0) (T := TX10) (N := 13) hx hb hts inX10 hown hK hP 0 rfl rfl 11 (by decide) f57 (fun _ h9 => h9) rfl dX10_stands_30 ?_
      refine lv_aload_n hx hb dX10_stands_33 rfl (lv_at hl 0 rfl) ?_
      refine va_get (v := .ref p0) (T := TX10) (N := 13) hx hb hts inX10 hown hK hP 0 rfl rfl 3 (by decide) f23 (fun _ h9 => h9) rfl dX10_stands_34 ?_
      refine he_cv (wc := [(oX1 v0 v1 v2 v3 ww dg), (aI g v1 3 wo), (aI g v2 3 he_), (aI g v3 3 pf), (oX6 p0 p1 p2 p3 p4 (nI w)), (aI g p3 6 st)]) (wr := [(oX10 x0 y0 ta z0 p0 dr pa to_ s0 im ki tr v0 rf)]) (va_runV (As := [.ref p0]) (rest := []) ⟨hx, hb, hml, hown, hts⟩ (s_X1_prepare l g v0 v1 v2 v3 ww dg wo he_ pf p0 p1 p2 p3 p4 w st Wr (by first | assumption | decide | omega) (by first | assumption | decide | omega) (by first | assumption | decide | omega) H.size) (cwV 1 hts gX10_stands_X1_prepare rfl rfl rfl (by decide +kernel) ⟨Nat.le_of_ble_eq_true rfl, Nat.le_of_ble_eq_true rfl⟩) (he_preV (wc := [(oX1 v0 v1 v2 v3 ww dg), (aI g v1 3 wo), (aI g v2 3 he_), (aI g v3 3 pf), (oX6 p0 p1 p2 p3 p4 (nI w)), (aI g p3 6 st)]) hK hP hD hS hA hE [3, 4, 5, 6, 1, 2] rfl rfl 3 rfl rfl) rfl rfl hl.1 rfl (lv_room (Nat.le_of_ble_eq_true rfl)) dX10_stands_37 ⟨(Nat.le_of_ble_eq_true rfl), (Nat.le_of_ble_eq_true rfl)⟩) hP hD hS hA [3, 4, 5, 6, 1, 2] [0] rfl rfl rfl (by decide) (fun u_13 H locs h_14 hP hD hS => ?_)
      obtain ⟨uo_15, uh_16⟩ := u_13
      try dsimp only at h_14
      have hf_17 := h_14
      have hP : va_P g.1 vwCl [(oX10 x0 y0 ta z0 p0 dr pa to_ s0 im ki tr v0 rf), (oX1 v0 v1 v2 v3 (nI (if 3 < w then 3 else w)) dg), (aI g v1 3 uo_15), (aI g v2 3 uh_16), (aI g v3 3 pf), (oX6 p0 p1 p2 p3 p4 (nI w)), (aI g p3 6 st)] H := hP
      have hD : va_D A [(oX10 x0 y0 ta z0 p0 dr pa to_ s0 im ki tr v0 rf), (oX1 v0 v1 v2 v3 (nI (if 3 < w then 3 else w)) dg), (aI g v1 3 uo_15), (aI g v2 3 uh_16), (aI g v3 3 pf), (oX6 p0 p1 p2 p3 p4 (nI w)), (aI g p3 6 st)] := hD
      have hv9 := v3_le w
      have h79 := all_7 hv9
      refine lv_aload_n hx hb dX10_stands_40 rfl (lv_at hl 0 rfl) ?_
      refine va_get (v := .ref v0) (T := TX10) (N := 13) hx hb hts inX10 hown hK hP 0 rfl rfl 11 (by decide) f57 (fun _ h9 => h9) rfl dX10_stands_41 ?_
      refine lv_aload_n hx hb dX10_stands_44 rfl (lv_at hl 0 rfl) ?_
      refine va_get (v := .ref v0) (T := TX10) (N := 13) hx hb hts inX10 hown hK hP 0 rfl rfl 11 (by decide) f57 (fun _ h9 => h9) rfl dX10_stands_45 ?_
      refine he_ci (wc := [(oX1 v0 v1 v2 v3 (nI (if 3 < w then 3 else w)) dg), (aI g v1 3 uo_15), (aI g v2 3 uh_16), (aI g v3 3 pf)]) (wr := [(oX10 x0 y0 ta z0 p0 dr pa to_ s0 im ki tr v0 rf), (oX6 p0 p1 p2 p3 p4 (nI w)), (aI g p3 6 st)]) (va_runV (As := []) (rest := [.ref v0]) ⟨hx, hb, hml, hown, hts⟩ (g_X1_all l g v0 v1 v2 v3 (if 3 < w then 3 else w) dg uo_15 uh_16 pf (by first | assumption | decide | omega) H.size) (cwV 0 hts gX10_stands_X1_all rfl rfl rfl (by decide +kernel) ⟨Nat.le_of_ble_eq_true rfl, Nat.le_of_ble_eq_true rfl⟩) (he_preV (wc := [(oX1 v0 v1 v2 v3 (nI (if 3 < w then 3 else w)) dg), (aI g v1 3 uo_15), (aI g v2 3 uh_16), (aI g v3 3 pf)]) hK hP hD hS hA hE [1, 2, 3, 4] rfl rfl 1 rfl rfl) rfl rfl hl.1 rfl (lv_room (Nat.le_of_ble_eq_true rfl)) dX10_stands_48 ⟨(Nat.le_of_ble_eq_true rfl), (Nat.le_of_ble_eq_true rfl)⟩) hP hD hS hA [1, 2, 3, 4] [0, 5, 6] rfl rfl rfl (by decide) (fun r_18 u_19 H locs h_20 hP hD hS => ?_)
      subst h_20
      have hP : va_P g.1 vwCl [(oX10 x0 y0 ta z0 p0 dr pa to_ s0 im ki tr v0 rf), (oX6 p0 p1 p2 p3 p4 (nI w)), (aI g p3 6 st), (oX1 v0 v1 v2 v3 (nI (if 3 < w then 3 else w)) dg), (aI g v1 3 uo_15), (aI g v2 3 uh_16), (aI g v3 3 pf)] H := hP
      have hD : va_D A [(oX10 x0 y0 ta z0 p0 dr pa to_ s0 im ki tr v0 rf), (oX6 p0 p1 p2 p3 p4 (nI w)), (aI g p3 6 st), (oX1 v0 v1 v2 v3 (nI (if 3 < w then 3 else w)) dg), (aI g v1 3 uo_15), (aI g v2 3 uh_16), (aI g v3 3 pf)] := hD
      refine lv_iload_n hx hb dX10_stands_51 rfl (lv_at hl 1 rfl) ?_
      refine lv_iload_n hx hb dX10_stands_52 rfl (lv_at hl 2 rfl) ?_
      refine he_ci (wc := [(oX1 v0 v1 v2 v3 (nI (if 3 < w then 3 else w)) dg), (aI g v1 3 uo_15), (aI g v2 3 uh_16), (aI g v3 3 pf)]) (wr := [(oX10 x0 y0 ta z0 p0 dr pa to_ s0 im ki tr v0 rf), (oX6 p0 p1 p2 p3 p4 (nI w)), (aI g p3 6 st)]) (va_runV (As := [.int (nI (allN (if 3 < w then 3 else w))), .int (nI a), .int (nI d)]) (rest := []) ⟨hx, hb, hml, hown, hts⟩ (s_X1_safe l g v0 v1 v2 v3 (if 3 < w then 3 else w) dg uo_15 uh_16 pf Wr (allN (if 3 < w then 3 else w)) a d hv9 (by omega) (by first | assumption | decide | omega) (by first | assumption | decide | omega) (fun k9 h9 h8 => hf_17 k9 (bt_all _ (v3_le w) k9 h9 h8)) (by first | assumption | decide | omega) H.size) (cwV 3 hts gX10_stands_X1_safe rfl rfl rfl (by decide +kernel) ⟨Nat.le_of_ble_eq_true rfl, Nat.le_of_ble_eq_true rfl⟩) (he_preV (wc := [(oX1 v0 v1 v2 v3 (nI (if 3 < w then 3 else w)) dg), (aI g v1 3 uo_15), (aI g v2 3 uh_16), (aI g v3 3 pf)]) hK hP hD hS hA hE [3, 4, 5, 6] rfl rfl 3 rfl rfl) rfl rfl hl.1 rfl (lv_room (Nat.le_of_ble_eq_true rfl)) dX10_stands_53 ⟨(Nat.le_of_ble_eq_true rfl), (Nat.le_of_ble_eq_true rfl)⟩) hP hD hS hA [3, 4, 5, 6] [0, 1, 2] rfl rfl rfl (by decide) (fun r_21 u_22 H locs h_23 hP hD hS => ?_)
      obtain ⟨ud_24, uf_25⟩ := u_22
      try dsimp only at h_23
      obtain ⟨rfl, hf_26⟩ := h_23
      have hP : va_P g.1 vwCl [(oX10 x0 y0 ta z0 p0 dr pa to_ s0 im ki tr v0 rf), (oX6 p0 p1 p2 p3 p4 (nI w)), (aI g p3 6 st), (oX1 v0 v1 v2 v3 (nI (if 3 < w then 3 else w)) ud_24), (aI g v1 3 uo_15), (aI g v2 3 uh_16), (aI g v3 3 uf_25)] H := hP
      have hD : va_D A [(oX10 x0 y0 ta z0 p0 dr pa to_ s0 im ki tr v0 rf), (oX6 p0 p1 p2 p3 p4 (nI w)), (aI g p3 6 st), (oX1 v0 v1 v2 v3 (nI (if 3 < w then 3 else w)) ud_24), (aI g v1 3 uo_15), (aI g v2 3 uh_16), (aI g v3 3 uf_25)] := hD
      refine lv_pop hx hb dX10_stands_56 rfl ?_
      refine lv_aload_n hx hb dX10_stands_57 rfl (lv_at hl 0 rfl) ?_
      refine va_get (v := .ref v0) (T := TX10) (N := 13) hx hb hts inX10 hown hK hP 0 rfl rfl 11 (by decide) f57 (fun _ h9 => h9) rfl dX10_stands_58 ?_
      refine va_get (v := .int ud_24) (T := TX1) (N := 5) hx hb hts inX1 hown hK hP 3 rfl rfl 4 (by decide) f226 (fun _ h9 => h9) rfl dX10_stands_61 ?_
      exact he_ri hQ hx hb hr hlk hP hD hS dX10_stands_64 (Nat.le_of_ble_eq_true rfl) (Nat.le_of_ble_eq_true rfl) ((ud_24, uo_15, uh_16, uf_25)) (rfl) (hf_26)
set_option maxHeartbeats 4000000 in
set_option maxRecDepth 100000 in
theorem s_X10_show (l : Launch) (g : he_G) (x0 : Nat) (y0 : Nat) (z0 : Nat) (dr : Nat) (pa : Nat) (s0 : Nat) (im : Nat) (tr : Nat) (v0 : Nat) (rf : Nat) (ta : Int32) (to_ : Int32) (ki : Int32) (p0 : Nat) (p1 : Nat) (p2 : Nat) (p3 : Nat) (p4 : Nat) (w : Nat) (st : Nat → Int32) (v1 : Nat) (v2 : Nat) (v3 : Nat) (ww : Int32) (dg : Int32) (wo : Nat → Int32) (he_ : Nat → Int32) (pf : Nat → Int32) (a : Nat) (d : Nat) (Wr : Nat → Nat) (hw6 : w ≤ 6) (ha6 : a ≤ 6) (hd6 : d ≤ 6) (hst : ∀ k, k < w → st k = nI (Wr k)) (hW9 : ∀ k, Wr k ≤ 99) : he_I l yX10_show wsX10_show 3 74 0 0 g [.ref x0, .int (nI a), .int (nI d)] [(oX10 x0 y0 ta z0 p0 dr pa to_ s0 im ki tr v0 rf), (oX6 p0 p1 p2 p3 p4 (nI w)), (aI g p3 6 st), (oX1 v0 v1 v2 v3 ww dg), (aI g v1 3 wo), (aI g v2 3 he_), (aI g v3 3 pf)] (fun (r : Int32) (u : Int32 × (Nat → Int32) × (Nat → Int32) × (Nat → Int32)) => r = nI (shC Wr (if 3 < w then 3 else w) a d (if 3 < w then 3 else w))) (fun (u : Int32 × (Nat → Int32) × (Nat → Int32) × (Nat → Int32)) => [(oX10 x0 y0 ta z0 p0 dr pa to_ s0 im ki tr v0 rf), (oX6 p0 p1 p2 p3 p4 (nI w)), (aI g p3 6 st), (oX1 v0 v1 v2 v3 (nI (if 3 < w then 3 else w)) u.1), (aI g v1 3 u.2.1), (aI g v2 3 u.2.2.1), (aI g v3 3 u.2.2.2)]) := by
  refine he_begin (l := l) (g := g) (y := yX10_show) (wl := wsX10_show) (fr := 3) (lo := 74) (mc := 0) (ms := 0) (av := [.ref x0, .int (nI a), .int (nI d)]) (ws := [(oX10 x0 y0 ta z0 p0 dr pa to_ s0 im ki tr v0 rf), (oX6 p0 p1 p2 p3 p4 (nI w)), (aI g p3 6 st), (oX1 v0 v1 v2 v3 ww dg), (aI g v1 3 wo), (aI g v2 3 he_), (aI g v3 3 pf)]) (cc := cX10_show) (maxL := 7) (ret := (some .int)) (fun A => va_Qi (fun (r : Int32) (u : Int32 × (Nat → Int32) × (Nat → Int32) × (Nat → Int32)) => r = nI (shC Wr (if 3 < w then 3 else w) a d (if 3 < w then 3 else w))) (fun u t => he_post g A ((fun (u : Int32 × (Nat → Int32) × (Nat → Int32) × (Nat → Int32)) => [(oX10 x0 y0 ta z0 p0 dr pa to_ s0 im ki tr v0 rf), (oX6 p0 p1 p2 p3 p4 (nI w)), (aI g p3 6 st), (oX1 v0 v1 v2 v3 (nI (if 3 < w then 3 else w)) u.1), (aI g v1 3 u.2.1), (aI g v2 3 u.2.2.1), (aI g v3 3 u.2.2.2)]) u) t) A) (by decide) rfl (Nat.le_of_ble_eq_true rfl) ?_
  intro p e s m args below meth c A ls H locs Q hQ hB
  obtain ⟨hx, hb, hr, hml, hown, hts, hlk, hin, hP, hK, hD, hS, hA, hE, hl⟩ := hB
  have hl : lv_has ls 7 [(0, .ref x0), (1, .int (nI a)), (2, .int (nI d))] := hl
  have f57 := hts (.fieldLink RX10 57 "HiredEnemy" "battle" "LHiredEnemy$Battle;") (iwoX10_show (k := 0) rfl)
  have inX10 : ∀ w ∈ wsX100, w ∈ wsX10_show := innX10_show_X10
  have f23 := hts (.fieldLink RX10 23 "HiredEnemy" "plan" "LHiredEnemy$Plan;") (iwoX10_show (k := 1) rfl)
  have f229 := hts (.fieldLink RX10 229 "HiredEnemy$Battle" "walls" "I") (iwoX10_show (k := 2) rfl)
  have inX1 : ∀ w ∈ wsX10, w ∈ wsX10_show := innX10_show_X1
  refine lv_aload_n hx hb dX10_show_0 rfl (lv_at hl 0 rfl) ?_
  refine lv_iload_n hx hb dX10_show_1 rfl (lv_at hl 1 rfl) ?_
  refine lv_iconst (v := 0) hx hb dX10_show_2 (by decide) ?_
  refine lv_bipush (v := 6) hx hb dX10_show_3 (by decide) ?_
  refine he_ci (wc := []) (wr := [(oX10 x0 y0 ta z0 p0 dr pa to_ s0 im ki tr v0 rf), (oX6 p0 p1 p2 p3 p4 (nI w)), (aI g p3 6 st), (oX1 v0 v1 v2 v3 ww dg), (aI g v1 3 wo), (aI g v2 3 he_), (aI g v3 3 pf)]) (va_runS (As := [.int (nI a), .int 0, .int 6]) (rest := [.ref x0]) ⟨hx, hb, hml, hown, hts⟩ (c_X10_within l g (nI a) 0 6 H.size) (va_cwS 3 hts gX10_show_X10_within rfl rfl rfl (by decide +kernel) ⟨Nat.le_of_ble_eq_true rfl, Nat.le_of_ble_eq_true rfl⟩) (he_preS (wc := []) hK hP hD hS hA hE [] rfl rfl) rfl rfl hl.1 rfl (lv_room (Nat.le_of_ble_eq_true rfl)) dX10_show_5 ⟨(Nat.le_of_ble_eq_true rfl), (Nat.le_of_ble_eq_true rfl)⟩) hP hD hS hA [] [0, 1, 2, 3, 4, 5, 6] rfl rfl rfl (by decide) (fun r_1 u_2 H locs h_3 hP hD hS => ?_)
  subst h_3
  have hP : va_P g.1 vwCl [(oX10 x0 y0 ta z0 p0 dr pa to_ s0 im ki tr v0 rf), (oX6 p0 p1 p2 p3 p4 (nI w)), (aI g p3 6 st), (oX1 v0 v1 v2 v3 ww dg), (aI g v1 3 wo), (aI g v2 3 he_), (aI g v3 3 pf)] H := hP
  have hD : va_D A [(oX10 x0 y0 ta z0 p0 dr pa to_ s0 im ki tr v0 rf), (oX6 p0 p1 p2 p3 p4 (nI w)), (aI g p3 6 st), (oX1 v0 v1 v2 v3 ww dg), (aI g v1 3 wo), (aI g v2 3 he_), (aI g v3 3 pf)] := hD
  refine he_top (1) (he_within_in (a0 := 0) (B := 6) rfl rfl (by omega) (by omega) (by decide)) ?_
  refine lv_if_eq (tgt := 25) hx hb dX10_show_8 (by decide) (fun c_4 => ?_) (fun c_4 => ?_)
  · exact absurd c_4 (by decide)
  · refine lv_iload_n hx hb dX10_show_11 rfl (lv_at hl 2 rfl) ?_
    refine lv_iconst (v := 0) hx hb dX10_show_12 (by decide) ?_
    refine lv_bipush (v := 6) hx hb dX10_show_13 (by decide) ?_
    refine he_ci (wc := []) (wr := [(oX10 x0 y0 ta z0 p0 dr pa to_ s0 im ki tr v0 rf), (oX6 p0 p1 p2 p3 p4 (nI w)), (aI g p3 6 st), (oX1 v0 v1 v2 v3 ww dg), (aI g v1 3 wo), (aI g v2 3 he_), (aI g v3 3 pf)]) (va_runS (As := [.int (nI d), .int 0, .int 6]) (rest := [.ref x0]) ⟨hx, hb, hml, hown, hts⟩ (c_X10_within l g (nI d) 0 6 H.size) (va_cwS 3 hts gX10_show_X10_within rfl rfl rfl (by decide +kernel) ⟨Nat.le_of_ble_eq_true rfl, Nat.le_of_ble_eq_true rfl⟩) (he_preS (wc := []) hK hP hD hS hA hE [] rfl rfl) rfl rfl hl.1 rfl (lv_room (Nat.le_of_ble_eq_true rfl)) dX10_show_15 ⟨(Nat.le_of_ble_eq_true rfl), (Nat.le_of_ble_eq_true rfl)⟩) hP hD hS hA [] [0, 1, 2, 3, 4, 5, 6] rfl rfl rfl (by decide) (fun r_5 u_6 H locs h_7 hP hD hS => ?_)
    subst h_7
    have hP : va_P g.1 vwCl [(oX10 x0 y0 ta z0 p0 dr pa to_ s0 im ki tr v0 rf), (oX6 p0 p1 p2 p3 p4 (nI w)), (aI g p3 6 st), (oX1 v0 v1 v2 v3 ww dg), (aI g v1 3 wo), (aI g v2 3 he_), (aI g v3 3 pf)] H := hP
    have hD : va_D A [(oX10 x0 y0 ta z0 p0 dr pa to_ s0 im ki tr v0 rf), (oX6 p0 p1 p2 p3 p4 (nI w)), (aI g p3 6 st), (oX1 v0 v1 v2 v3 ww dg), (aI g v1 3 wo), (aI g v2 3 he_), (aI g v3 3 pf)] := hD
    refine he_top (1) (he_within_in (a0 := 0) (B := 6) rfl rfl (by omega) (by omega) (by decide)) ?_
    refine lv_if_eq (tgt := 25) hx hb dX10_show_18 (by decide) (fun c_8 => ?_) (fun c_8 => ?_)
    · exact absurd c_8 (by decide)
    · refine lv_iconst (v := 1) hx hb dX10_show_21 (by decide) ?_
      refine lv_goto (tgt := 26) hx hb dX10_show_22 (by decide) ?_
      refine he_cv (wc := []) (wr := [(oX10 x0 y0 ta z0 p0 dr pa to_ s0 im ki tr v0 rf), (oX6 p0 p1 p2 p3 p4 (nI w)), (aI g p3 6 st), (oX1 v0 v1 v2 v3 ww dg), (aI g v1 3 wo), (aI g v2 3 he_), (aI g v3 3 pf)]) (va_runV (As := [.int 1]) (rest := []) ⟨hx, hb, hml, hown, hts⟩ (c_X10_demand1 l g x0 H.size) (cwV 1 hts gX10_show_X10_demand rfl rfl rfl (by decide +kernel) ⟨Nat.le_of_ble_eq_true rfl, Nat.le_of_ble_eq_true rfl⟩) (he_preV (wc := []) hK hP hD hS hA hE [] rfl rfl 0 rfl rfl) rfl rfl hl.1 rfl (lv_room (Nat.le_of_ble_eq_true rfl)) dX10_show_26 ⟨(Nat.le_of_ble_eq_true rfl), (Nat.le_of_ble_eq_true rfl)⟩) hP hD hS hA [] [0, 1, 2, 3, 4, 5, 6] rfl rfl rfl (by decide) (fun u_10 H locs h_11 hP hD hS => ?_)
      have hP : va_P g.1 vwCl [(oX10 x0 y0 ta z0 p0 dr pa to_ s0 im ki tr v0 rf), (oX6 p0 p1 p2 p3 p4 (nI w)), (aI g p3 6 st), (oX1 v0 v1 v2 v3 ww dg), (aI g v1 3 wo), (aI g v2 3 he_), (aI g v3 3 pf)] H := hP
      have hD : va_D A [(oX10 x0 y0 ta z0 p0 dr pa to_ s0 im ki tr v0 rf), (oX6 p0 p1 p2 p3 p4 (nI w)), (aI g p3 6 st), (oX1 v0 v1 v2 v3 ww dg), (aI g v1 3 wo), (aI g v2 3 he_), (aI g v3 3 pf)] := hD
      refine lv_aload_n hx hb dX10_show_29 rfl (lv_at hl 0 rfl) ?_
      refine va_get (v := .ref v0) (T := TX10) (N := 13) hx hb hts inX10 hown hK hP 0 rfl rfl 11 (by decide) f57 (fun _ h9 => h9) rfl dX10_show_30 ?_
      refine lv_aload_n hx hb dX10_show_33 rfl (lv_at hl 0 rfl) ?_
      refine va_get (v := .ref p0) (T := TX10) (N := 13) hx hb hts inX10 hown hK hP 0 rfl rfl 3 (by decide) f23 (fun _ h9 => h9) rfl dX10_show_34 ?_
      refine he_cv (wc := [(oX1 v0 v1 v2 v3 ww dg), (aI g v1 3 wo), (aI g v2 3 he_), (aI g v3 3 pf), (oX6 p0 p1 p2 p3 p4 (nI w)), (aI g p3 6 st)]) (wr := [(oX10 x0 y0 ta z0 p0 dr pa to_ s0 im ki tr v0 rf)]) (va_runV (As := [.ref p0]) (rest := []) ⟨hx, hb, hml, hown, hts⟩ (s_X1_prepare l g v0 v1 v2 v3 ww dg wo he_ pf p0 p1 p2 p3 p4 w st Wr (by first | assumption | decide | omega) (by first | assumption | decide | omega) (by first | assumption | decide | omega) H.size) (cwV 1 hts gX10_show_X1_prepare rfl rfl rfl (by decide +kernel) ⟨Nat.le_of_ble_eq_true rfl, Nat.le_of_ble_eq_true rfl⟩) (he_preV (wc := [(oX1 v0 v1 v2 v3 ww dg), (aI g v1 3 wo), (aI g v2 3 he_), (aI g v3 3 pf), (oX6 p0 p1 p2 p3 p4 (nI w)), (aI g p3 6 st)]) hK hP hD hS hA hE [3, 4, 5, 6, 1, 2] rfl rfl 3 rfl rfl) rfl rfl hl.1 rfl (lv_room (Nat.le_of_ble_eq_true rfl)) dX10_show_37 ⟨(Nat.le_of_ble_eq_true rfl), (Nat.le_of_ble_eq_true rfl)⟩) hP hD hS hA [3, 4, 5, 6, 1, 2] [0] rfl rfl rfl (by decide) (fun u_13 H locs h_14 hP hD hS => ?_)
      obtain ⟨uo_15, uh_16⟩ := u_13
      try dsimp only at h_14
      have hf_17 := h_14
      have hP : va_P g.1 vwCl [(oX10 x0 y0 ta z0 p0 dr pa to_ s0 im ki tr v0 rf), (oX1 v0 v1 v2 v3 (nI (if 3 < w then 3 else w)) dg), (aI g v1 3 uo_15), (aI g v2 3 uh_16), (aI g v3 3 pf), (oX6 p0 p1 p2 p3 p4 (nI w)), (aI g p3 6 st)] H := hP
      have hD : va_D A [(oX10 x0 y0 ta z0 p0 dr pa to_ s0 im ki tr v0 rf), (oX1 v0 v1 v2 v3 (nI (if 3 < w then 3 else w)) dg), (aI g v1 3 uo_15), (aI g v2 3 uh_16), (aI g v3 3 pf), (oX6 p0 p1 p2 p3 p4 (nI w)), (aI g p3 6 st)] := hD
      have hv9 := v3_le w
      have h79 := all_7 hv9
      refine lv_aload_n hx hb dX10_show_40 rfl (lv_at hl 0 rfl) ?_
      refine va_get (v := .ref v0) (T := TX10) (N := 13) hx hb hts inX10 hown hK hP 0 rfl rfl 11 (by decide) f57 (fun _ h9 => h9) rfl dX10_show_41 ?_
      refine lv_aload_n hx hb dX10_show_44 rfl (lv_at hl 0 rfl) ?_
      refine va_get (v := .ref v0) (T := TX10) (N := 13) hx hb hts inX10 hown hK hP 0 rfl rfl 11 (by decide) f57 (fun _ h9 => h9) rfl dX10_show_45 ?_
      refine he_ci (wc := [(oX1 v0 v1 v2 v3 (nI (if 3 < w then 3 else w)) dg), (aI g v1 3 uo_15), (aI g v2 3 uh_16), (aI g v3 3 pf)]) (wr := [(oX10 x0 y0 ta z0 p0 dr pa to_ s0 im ki tr v0 rf), (oX6 p0 p1 p2 p3 p4 (nI w)), (aI g p3 6 st)]) (va_runV (As := []) (rest := [.ref v0]) ⟨hx, hb, hml, hown, hts⟩ (g_X1_all l g v0 v1 v2 v3 (if 3 < w then 3 else w) dg uo_15 uh_16 pf (by first | assumption | decide | omega) H.size) (cwV 0 hts gX10_show_X1_all rfl rfl rfl (by decide +kernel) ⟨Nat.le_of_ble_eq_true rfl, Nat.le_of_ble_eq_true rfl⟩) (he_preV (wc := [(oX1 v0 v1 v2 v3 (nI (if 3 < w then 3 else w)) dg), (aI g v1 3 uo_15), (aI g v2 3 uh_16), (aI g v3 3 pf)]) hK hP hD hS hA hE [1, 2, 3, 4] rfl rfl 1 rfl rfl) rfl rfl hl.1 rfl (lv_room (Nat.le_of_ble_eq_true rfl)) dX10_show_48 ⟨(Nat.le_of_ble_eq_true rfl), (Nat.le_of_ble_eq_true rfl)⟩) hP hD hS hA [1, 2, 3, 4] [0, 5, 6] rfl rfl rfl (by decide) (fun r_18 u_19 H locs h_20 hP hD hS => ?_)
      subst h_20
      have hP : va_P g.1 vwCl [(oX10 x0 y0 ta z0 p0 dr pa to_ s0 im ki tr v0 rf), (oX6 p0 p1 p2 p3 p4 (nI w)), (aI g p3 6 st), (oX1 v0 v1 v2 v3 (nI (if 3 < w then 3 else w)) dg), (aI g v1 3 uo_15), (aI g v2 3 uh_16), (aI g v3 3 pf)] H := hP
      have hD : va_D A [(oX10 x0 y0 ta z0 p0 dr pa to_ s0 im ki tr v0 rf), (oX6 p0 p1 p2 p3 p4 (nI w)), (aI g p3 6 st), (oX1 v0 v1 v2 v3 (nI (if 3 < w then 3 else w)) dg), (aI g v1 3 uo_15), (aI g v2 3 uh_16), (aI g v3 3 pf)] := hD
      refine lv_iload_n hx hb dX10_show_51 rfl (lv_at hl 1 rfl) ?_
      refine lv_iload_n hx hb dX10_show_52 rfl (lv_at hl 2 rfl) ?_
      refine he_ci (wc := [(oX1 v0 v1 v2 v3 (nI (if 3 < w then 3 else w)) dg), (aI g v1 3 uo_15), (aI g v2 3 uh_16), (aI g v3 3 pf)]) (wr := [(oX10 x0 y0 ta z0 p0 dr pa to_ s0 im ki tr v0 rf), (oX6 p0 p1 p2 p3 p4 (nI w)), (aI g p3 6 st)]) (va_runV (As := [.int (nI (allN (if 3 < w then 3 else w))), .int (nI a), .int (nI d)]) (rest := []) ⟨hx, hb, hml, hown, hts⟩ (s_X1_safe l g v0 v1 v2 v3 (if 3 < w then 3 else w) dg uo_15 uh_16 pf Wr (allN (if 3 < w then 3 else w)) a d hv9 (by omega) (by first | assumption | decide | omega) (by first | assumption | decide | omega) (fun k9 h9 h8 => hf_17 k9 (bt_all _ (v3_le w) k9 h9 h8)) (by first | assumption | decide | omega) H.size) (cwV 3 hts gX10_show_X1_safe rfl rfl rfl (by decide +kernel) ⟨Nat.le_of_ble_eq_true rfl, Nat.le_of_ble_eq_true rfl⟩) (he_preV (wc := [(oX1 v0 v1 v2 v3 (nI (if 3 < w then 3 else w)) dg), (aI g v1 3 uo_15), (aI g v2 3 uh_16), (aI g v3 3 pf)]) hK hP hD hS hA hE [3, 4, 5, 6] rfl rfl 3 rfl rfl) rfl rfl hl.1 rfl (lv_room (Nat.le_of_ble_eq_true rfl)) dX10_show_53 ⟨(Nat.le_of_ble_eq_true rfl), (Nat.le_of_ble_eq_true rfl)⟩) hP hD hS hA [3, 4, 5, 6] [0, 1, 2] rfl rfl rfl (by decide) (fun r_21 u_22 H locs h_23 hP hD hS => ?_)
      obtain ⟨ud_24, uf_25⟩ := u_22
      try dsimp only at h_23
      obtain ⟨rfl, hf_26⟩ := h_23
      have hP : va_P g.1 vwCl [(oX10 x0 y0 ta z0 p0 dr pa to_ s0 im ki tr v0 rf), (oX6 p0 p1 p2 p3 p4 (nI w)), (aI g p3 6 st), (oX1 v0 v1 v2 v3 (nI (if 3 < w then 3 else w)) ud_24), (aI g v1 3 uo_15), (aI g v2 3 uh_16), (aI g v3 3 uf_25)] H := hP
      have hD : va_D A [(oX10 x0 y0 ta z0 p0 dr pa to_ s0 im ki tr v0 rf), (oX6 p0 p1 p2 p3 p4 (nI w)), (aI g p3 6 st), (oX1 v0 v1 v2 v3 (nI (if 3 < w then 3 else w)) ud_24), (aI g v1 3 uo_15), (aI g v2 3 uh_16), (aI g v3 3 uf_25)] := hD
      refine lv_istore_n (lv' := [(3, .int (nI (leN (foC Wr (allN (if 3 < w then 3 else w)) a d)))), (0, .ref x0), (1, .int (nI a)), (2, .int (nI d))]) hx hb dX10_show_56 rfl hl (by decide) rfl (fun ls hl => ?_)
      refine lv_iconst (v := 0) hx hb dX10_show_57 (by decide) ?_
      refine lv_istore (lv' := [(4, .int 0), (3, .int (nI (leN (foC Wr (allN (if 3 < w then 3 else w)) a d)))), (0, .ref x0), (1, .int (nI a)), (2, .int (nI d))]) hx hb dX10_show_58 hl (by decide) rfl (fun ls hl => ?_)
      have hP37 := hf_17
      refine lv_iconst (v := 0) hx hb dX10_show_60 (by decide) ?_
      refine lv_istore (lv' := [(5, .int 0), (4, .int 0), (3, .int (nI (leN (foC Wr (allN (if 3 < w then 3 else w)) a d)))), (0, .ref x0), (1, .int (nI a)), (2, .int (nI d))]) hx hb dX10_show_61 hl (by decide) rfl (fun ls hl => ?_)
      have loop63 : ∀ (n9 : Nat) (j : Nat) (rs : Nat) (dd : Int32) (pu : Nat → Int32), (if 3 < w then 3 else w) - j < n9 → (j ≤ (if 3 < w then 3 else w)) → (rs = shC Wr (if 3 < w then 3 else w) a d j) → ∀ (H : Heap) (locs : List Loc) (ls : Array Slot), va_P g.1 vwCl [(oX10 x0 y0 ta z0 p0 dr pa to_ s0 im ki tr v0 rf), (oX6 p0 p1 p2 p3 p4 (nI w)), (aI g p3 6 st), (oX1 v0 v1 v2 v3 (nI (if 3 < w then 3 else w)) dd), (aI g v1 3 uo_15), (aI g v2 3 uh_16), (aI g v3 3 pu)] H → va_D A [(oX10 x0 y0 ta z0 p0 dr pa to_ s0 im ki tr v0 rf), (oX6 p0 p1 p2 p3 p4 (nI w)), (aI g p3 6 st), (oX1 v0 v1 v2 v3 (nI (if 3 < w then 3 else w)) dd), (aI g v1 3 uo_15), (aI g v2 3 uh_16), (aI g v3 3 pu)] → va_S A s.heap H locs → lv_has ls 7 [(0, .ref x0), (1, .int (nI a)), (2, .int (nI d)), (3, .int (nI (leN (foC Wr (allN (if 3 < w then 3 else w)) a d)))), (4, .int (nI rs)), (5, .int (nI j))] → W p l e (he_room 3 74 0 0) s m args below meth c H locs 0 0 Q (F0 m 63 ls []) := by
        intro n9
        induction n9 with
        | zero => intro j rs dd pu hm9; exact absurd hm9 (Nat.not_lt_zero _)
        | succ n9 ih63 =>
          intro j rs dd pu hm9 hj hrs H locs ls hP hD hS hl
          refine lv_iload hx hb dX10_show_63 (lv_at hl 5 rfl) ?_
          refine lv_aload_n hx hb dX10_show_65 rfl (lv_at hl 0 rfl) ?_
          refine va_get (v := .ref v0) (T := TX10) (N := 13) hx hb hts inX10 hown hK hP 0 rfl rfl 11 (by decide) f57 (fun _ h9 => h9) rfl dX10_show_66 ?_
          refine va_get (v := .int (nI (if 3 < w then 3 else w))) (T := TX1) (N := 5) hx hb hts inX1 hown hK hP 3 rfl rfl 3 (by decide) f229 (fun _ h9 => h9) rfl dX10_show_69 ?_
          refine lv_icmp_ge (tgt := 121) hx hb dX10_show_72 (by decide) (fun c_27 => ?_) (fun c_27 => ?_)
          · have k_28 : (if 3 < w then 3 else w) ≤ j := (he_cle (a := (if 3 < w then 3 else w)) (b := j) rfl rfl (by omega) (by omega)).mp c_27
            refine lv_iload hx hb dX10_show_121 (lv_at hl 4 rfl) ?_
            exact he_ri hQ hx hb hr hlk hP hD hS dX10_show_123 (Nat.le_of_ble_eq_true rfl) (Nat.le_of_ble_eq_true rfl) ((dd, uo_15, uh_16, pu)) (rfl) ((congrArg nI (by (try dsimp only); rw [hrs, show j = (if 3 < w then 3 else w) by (try dsimp only); omega])))
          · have k_29 : ¬ ((if 3 < w then 3 else w) ≤ j) := fun h9 => c_27 ((he_cle (a := (if 3 < w then 3 else w)) (b := j) rfl rfl (by omega) (by omega)).mpr h9)
            refine lv_aload_n hx hb dX10_show_75 rfl (lv_at hl 0 rfl) ?_
            refine va_get (v := .ref v0) (T := TX10) (N := 13) hx hb hts inX10 hown hK hP 0 rfl rfl 11 (by decide) f57 (fun _ h9 => h9) rfl dX10_show_76 ?_
            refine he_ci (wc := [(oX1 v0 v1 v2 v3 (nI (if 3 < w then 3 else w)) dd), (aI g v1 3 uo_15), (aI g v2 3 uh_16), (aI g v3 3 pu)]) (wr := [(oX10 x0 y0 ta z0 p0 dr pa to_ s0 im ki tr v0 rf), (oX6 p0 p1 p2 p3 p4 (nI w)), (aI g p3 6 st)]) (va_runV (As := []) (rest := []) ⟨hx, hb, hml, hown, hts⟩ (g_X1_all l g v0 v1 v2 v3 (if 3 < w then 3 else w) dd uo_15 uh_16 pu (by first | assumption | decide | omega) H.size) (cwV 0 hts gX10_show_X1_all rfl rfl rfl (by decide +kernel) ⟨Nat.le_of_ble_eq_true rfl, Nat.le_of_ble_eq_true rfl⟩) (he_preV (wc := [(oX1 v0 v1 v2 v3 (nI (if 3 < w then 3 else w)) dd), (aI g v1 3 uo_15), (aI g v2 3 uh_16), (aI g v3 3 pu)]) hK hP hD hS hA hE [3, 4, 5, 6] rfl rfl 3 rfl rfl) rfl rfl hl.1 rfl (lv_room (Nat.le_of_ble_eq_true rfl)) dX10_show_79 ⟨(Nat.le_of_ble_eq_true rfl), (Nat.le_of_ble_eq_true rfl)⟩) hP hD hS hA [3, 4, 5, 6] [0, 1, 2] rfl rfl rfl (by decide) (fun r_30 u_31 H locs h_32 hP hD hS => ?_)
            subst h_32
            have hP : va_P g.1 vwCl [(oX10 x0 y0 ta z0 p0 dr pa to_ s0 im ki tr v0 rf), (oX6 p0 p1 p2 p3 p4 (nI w)), (aI g p3 6 st), (oX1 v0 v1 v2 v3 (nI (if 3 < w then 3 else w)) dd), (aI g v1 3 uo_15), (aI g v2 3 uh_16), (aI g v3 3 pu)] H := hP
            have hD : va_D A [(oX10 x0 y0 ta z0 p0 dr pa to_ s0 im ki tr v0 rf), (oX6 p0 p1 p2 p3 p4 (nI w)), (aI g p3 6 st), (oX1 v0 v1 v2 v3 (nI (if 3 < w then 3 else w)) dd), (aI g v1 3 uo_15), (aI g v2 3 uh_16), (aI g v3 3 pu)] := hD
            refine lv_iconst (v := 1) hx hb dX10_show_82 (by decide) ?_
            refine lv_iload hx hb dX10_show_83 (lv_at hl 5 rfl) ?_
            refine lv_ishl hx hb dX10_show_85 ?_
            refine lv_iconst (v := (-1)) hx hb dX10_show_86 (by decide) ?_
            refine lv_ixor hx hb dX10_show_87 ?_
            refine lv_iand hx hb dX10_show_88 ?_
            refine he_top (nI (rmN (allN (if 3 < w then 3 else w)) j)) (rm_e (allN (if 3 < w then 3 else w)) (by omega) j (by omega)) ?_
            refine lv_istore (lv' := [(6, .int (nI (rmN (allN (if 3 < w then 3 else w)) j))), (0, .ref x0), (1, .int (nI a)), (2, .int (nI d)), (3, .int (nI (leN (foC Wr (allN (if 3 < w then 3 else w)) a d)))), (4, .int (nI rs)), (5, .int (nI j))]) hx hb dX10_show_89 hl (by decide) rfl (fun ls hl => ?_)
            refine lv_aload_n hx hb dX10_show_91 rfl (lv_at hl 1 rfl) ?_
            refine va_get (v := .ref v0) (T := TX10) (N := 13) hx hb hts inX10 hown hK hP 0 rfl rfl 11 (by decide) f57 (fun _ h9 => h9) rfl dX10_show_92 ?_
            refine lv_iload hx hb dX10_show_95 (lv_at hl 0 rfl) ?_
            refine lv_iload_n hx hb dX10_show_97 rfl (lv_at hl 2 rfl) ?_
            refine lv_iload_n hx hb dX10_show_98 rfl (lv_at hl 3 rfl) ?_
            refine he_ci (wc := [(oX1 v0 v1 v2 v3 (nI (if 3 < w then 3 else w)) dd), (aI g v1 3 uo_15), (aI g v2 3 uh_16), (aI g v3 3 pu)]) (wr := [(oX10 x0 y0 ta z0 p0 dr pa to_ s0 im ki tr v0 rf), (oX6 p0 p1 p2 p3 p4 (nI w)), (aI g p3 6 st)]) (va_runV (As := [.int (nI (rmN (allN (if 3 < w then 3 else w)) j)), .int (nI a), .int (nI d)]) (rest := []) ⟨hx, hb, hml, hown, hts⟩ (s_X1_safe l g v0 v1 v2 v3 (if 3 < w then 3 else w) dd uo_15 uh_16 pu Wr (rmN (allN (if 3 < w then 3 else w)) j) a d hv9 (rm_lt (allN (if 3 < w then 3 else w)) (by omega) j (by omega)) (by first | assumption | decide | omega) (by first | assumption | decide | omega) (fun k9 h9 h8 => hP37 k9 (bt_all _ (v3_le w) k9 h9 (rm_sub (allN (if 3 < w then 3 else w)) (by omega) j (by omega) k9 h9 h8))) (by first | assumption | decide | omega) H.size) (cwV 3 hts gX10_show_X1_safe rfl rfl rfl (by decide +kernel) ⟨Nat.le_of_ble_eq_true rfl, Nat.le_of_ble_eq_true rfl⟩) (he_preV (wc := [(oX1 v0 v1 v2 v3 (nI (if 3 < w then 3 else w)) dd), (aI g v1 3 uo_15), (aI g v2 3 uh_16), (aI g v3 3 pu)]) hK hP hD hS hA hE [3, 4, 5, 6] rfl rfl 3 rfl rfl) rfl rfl hl.1 rfl (lv_room (Nat.le_of_ble_eq_true rfl)) dX10_show_99 ⟨(Nat.le_of_ble_eq_true rfl), (Nat.le_of_ble_eq_true rfl)⟩) hP hD hS hA [3, 4, 5, 6] [0, 1, 2] rfl rfl rfl (by decide) (fun r_33 u_34 H locs h_35 hP hD hS => ?_)
            obtain ⟨ud_36, uf_37⟩ := u_34
            try dsimp only at h_35
            obtain ⟨rfl, hf_38⟩ := h_35
            have hP : va_P g.1 vwCl [(oX10 x0 y0 ta z0 p0 dr pa to_ s0 im ki tr v0 rf), (oX6 p0 p1 p2 p3 p4 (nI w)), (aI g p3 6 st), (oX1 v0 v1 v2 v3 (nI (if 3 < w then 3 else w)) ud_36), (aI g v1 3 uo_15), (aI g v2 3 uh_16), (aI g v3 3 uf_37)] H := hP
            have hD : va_D A [(oX10 x0 y0 ta z0 p0 dr pa to_ s0 im ki tr v0 rf), (oX6 p0 p1 p2 p3 p4 (nI w)), (aI g p3 6 st), (oX1 v0 v1 v2 v3 (nI (if 3 < w then 3 else w)) ud_36), (aI g v1 3 uo_15), (aI g v2 3 uh_16), (aI g v3 3 uf_37)] := hD
            refine lv_iload_n hx hb dX10_show_102 rfl (lv_at hl 4 rfl) ?_
            refine lv_icmp_ne (tgt := 115) hx hb dX10_show_103 (by decide) (fun c_39 => ?_) (fun c_39 => ?_)
            · have heq : ¬ leN (foC Wr (rmN (allN (if 3 < w then 3 else w)) j) a d) = leN (foC Wr (allN (if 3 < w then 3 else w)) a d) := fun h9 => c_39 (by rw [h9])
              refine lv_iinc (v := nI (j + 1)) (lv' := [(5, .int (nI (j + 1))), (6, .int (nI (rmN (allN (if 3 < w then 3 else w)) j))), (0, .ref x0), (1, .int (nI a)), (2, .int (nI d)), (3, .int (nI (leN (foC Wr (allN (if 3 < w then 3 else w)) a d)))), (4, .int (nI rs))]) hx hb dX10_show_115 hl (k := 6) rfl (nI_1 j) (by decide) rfl (fun ls hl => ?_)
              refine lv_goto (tgt := 63) hx hb dX10_show_118 (by decide) ?_
              exact ih63 (j + 1) rs ud_36 uf_37 (by omega) (by omega) (shC_n hrs heq) _ _ _ hP hD hS (lv_sub hl [2, 3, 4, 5, 6, 0] rfl)
            · have heq : leN (foC Wr (rmN (allN (if 3 < w then 3 else w)) j) a d) = leN (foC Wr (allN (if 3 < w then 3 else w)) a d) := nI_j (by have := leN_le (fo_bo hW9 (rmN (allN (if 3 < w then 3 else w)) j) a d); omega) (by have := leN_le (fo_bo hW9 (allN (if 3 < w then 3 else w)) a d); omega) c_39
              refine lv_iload hx hb dX10_show_106 (lv_at hl 5 rfl) ?_
              refine lv_iconst (v := 1) hx hb dX10_show_108 (by decide) ?_
              refine lv_iload hx hb dX10_show_109 (lv_at hl 6 rfl) ?_
              refine lv_ishl hx hb dX10_show_111 ?_
              refine lv_ior hx hb dX10_show_112 ?_
              refine he_top (nI (rs + 2 ^ j)) (or_e j (by omega) rs (by rw [hrs]; exact shC_lt j)) ?_
              refine lv_istore (lv' := [(4, .int (nI (rs + 2 ^ j))), (6, .int (nI (rmN (allN (if 3 < w then 3 else w)) j))), (0, .ref x0), (1, .int (nI a)), (2, .int (nI d)), (3, .int (nI (leN (foC Wr (allN (if 3 < w then 3 else w)) a d)))), (5, .int (nI j))]) hx hb dX10_show_113 hl (by decide) rfl (fun ls hl => ?_)
              refine lv_iinc (v := nI (j + 1)) (lv' := [(5, .int (nI (j + 1))), (4, .int (nI (rs + 2 ^ j))), (6, .int (nI (rmN (allN (if 3 < w then 3 else w)) j))), (0, .ref x0), (1, .int (nI a)), (2, .int (nI d)), (3, .int (nI (leN (foC Wr (allN (if 3 < w then 3 else w)) a d))))]) hx hb dX10_show_115 hl (k := 6) rfl (nI_1 j) (by decide) rfl (fun ls hl => ?_)
              refine lv_goto (tgt := 63) hx hb dX10_show_118 (by decide) ?_
              exact ih63 (j + 1) (rs + 2 ^ j) ud_36 uf_37 (by omega) (by omega) (shC_y hrs heq) _ _ _ hP hD hS (lv_sub hl [3, 4, 5, 6, 1, 0] rfl)
      exact loop63 (((if 3 < w then 3 else w) - 0) + 1) 0 0 ud_24 uf_25 (Nat.lt_succ_self _) (Nat.zero_le _) rfl _ _ _ hP hD hS (lv_sub hl [3, 4, 5, 2, 1, 0] rfl)
