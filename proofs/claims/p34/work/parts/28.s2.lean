section
def pt3 (pf : Nat → Int32) (x y z : Nat) : Nat → Int32 := upd (upd (upd pf 0 (nI x)) 1 (nI y)) 2 (nI z)
theorem pt3_e {pf : Nat → Int32} {x y z : Nat} {ef : Nat → Nat} (h0 : ef 0 = x) (h1 : ef 1 = y) (h2 : ef 2 = z) (k : Nat) (hk : k < 3) : pt3 pf x y z k = nI (ef k) := by
  rcases (show k = 0 ∨ k = 1 ∨ k = 2 by omega) with rfl | rfl | rfl
  · unfold pt3; rw [upd_n (by decide), upd_n (by decide), upd_s, h0]
  · unfold pt3; rw [upd_n (by decide), upd_s, h1]
  · unfold pt3; rw [upd_s, h2]
theorem pr_s {st F G : Nat → Int32} {Wr : Nat → Nat} {j : Nat} (h : ∀ k, k < j → F k = nI (Wr k) ∧ G k = nI (Wr k / 25)) (hs : st j = nI (Wr j)) (h9 : Wr j ≤ 99) : ∀ k, k < j + 1 → upd F j (st j) k = nI (Wr k) ∧ upd G j (st j / 25) k = nI (Wr k / 25) := by
  intro k hk
  by_cases e : k = j
  · rw [e, upd_s, upd_s, hs]
    exact ⟨rfl, w25 (Wr j) (by omega)⟩
  · rw [upd_n e, upd_n e]
    exact h k (by omega)
theorem v3_le (w : Nat) : (if 3 < w then 3 else w) ≤ 3 := by split <;> omega
theorem v3_lt {w k : Nat} (h : k < if 3 < w then 3 else w) : k < w := by split at h <;> omega
set_option maxHeartbeats 4000000 in
set_option maxRecDepth 100000 in
theorem s_X1_worthOf (l : Launch) (g : he_G) (v0 : Nat) (v1 : Nat) (v2 : Nat) (v3 : Nat) (v : Nat) (dg : Int32) (wo : Nat → Int32) (he_ : Nat → Int32) (pf : Nat → Int32) (Wr : Nat → Nat) (se : Nat) (hs8 : se < 8) (hWo : ∀ k, k < 3 → bt se k = true → wo k = nI (Wr k)) : he_I l yX1_worthOf wsX1_worthOf 0 0 0 0 g [.ref v0, .int (nI se)] [(oX1 v0 v1 v2 v3 (nI v) dg), (aI g v1 3 wo), (aI g v2 3 he_), (aI g v3 3 pf)] (fun (r : Int32) (u : Unit) => r = nI (wor Wr se)) (fun (u : Unit) => [(oX1 v0 v1 v2 v3 (nI v) dg), (aI g v1 3 wo), (aI g v2 3 he_), (aI g v3 3 pf)]) := by
  refine he_begin (l := l) (g := g) (y := yX1_worthOf) (wl := wsX1_worthOf) (fr := 0) (lo := 0) (mc := 0) (ms := 0) (av := [.ref v0, .int (nI se)]) (ws := [(oX1 v0 v1 v2 v3 (nI v) dg), (aI g v1 3 wo), (aI g v2 3 he_), (aI g v3 3 pf)]) (cc := cX1_worthOf) (maxL := 4) (ret := (some .int)) (fun A => va_Qi (fun (r : Int32) (u : Unit) => r = nI (wor Wr se)) (fun u t => he_post g A ((fun (u : Unit) => [(oX1 v0 v1 v2 v3 (nI v) dg), (aI g v1 3 wo), (aI g v2 3 he_), (aI g v3 3 pf)]) u) t) A) (by decide) rfl (Nat.le_of_ble_eq_true rfl) ?_
  intro p e s m args below meth c A ls H locs Q hQ hB
  obtain ⟨hx, hb, hr, hml, hown, hts, hlk, hin, hP, hK, hD, hS, hA, hE, hl⟩ := hB
  have hl : lv_has ls 4 [(0, .ref v0), (1, .int (nI se))] := hl
  have f11 := hts (.fieldLink RX1 11 "HiredEnemy$Battle" "worth" "[I") (iwoX1_worthOf (k := 0) rfl)
  have inX1 : ∀ w ∈ wsX10, w ∈ wsX1_worthOf := innX1_worthOf_X1
  refine lv_iconst (v := 0) hx hb dX1_worthOf_0 (by decide) ?_
  refine lv_istore_n (lv' := [(2, .int 0), (0, .ref v0), (1, .int (nI se))]) hx hb dX1_worthOf_1 rfl hl (by decide) rfl (fun ls hl => ?_)
  refine lv_iconst (v := 0) hx hb dX1_worthOf_2 (by decide) ?_
  refine lv_istore_n (lv' := [(3, .int 0), (2, .int 0), (0, .ref v0), (1, .int (nI se))]) hx hb dX1_worthOf_3 rfl hl (by decide) rfl (fun ls hl => ?_)
  have loop4 : ∀ (n9 : Nat) (j : Nat) (ac : Nat), 3 - j < n9 → (j ≤ 3) → (ac = sP (fun k => if bt se k = true then Wr k else 0) j) → ∀ (H : Heap) (locs : List Loc) (ls : Array Slot), va_P g.1 vwCl [(oX1 v0 v1 v2 v3 (nI v) dg), (aI g v1 3 wo), (aI g v2 3 he_), (aI g v3 3 pf)] H → va_D A [(oX1 v0 v1 v2 v3 (nI v) dg), (aI g v1 3 wo), (aI g v2 3 he_), (aI g v3 3 pf)] → va_S A s.heap H locs → lv_has ls 4 [(0, .ref v0), (1, .int (nI se)), (2, .int (nI ac)), (3, .int (nI j))] → W p l e (he_room 0 0 0 0) s m args below meth c H locs 0 0 Q (F0 m 4 ls []) := by
    intro n9
    induction n9 with
    | zero => intro j ac hm9; exact absurd hm9 (Nat.not_lt_zero _)
    | succ n9 ih4 =>
      intro j ac hm9 hj hac H locs ls hP hD hS hl
      refine lv_iload_n hx hb dX1_worthOf_4 rfl (lv_at hl 3 rfl) ?_
      refine lv_iconst (v := 3) hx hb dX1_worthOf_5 (by decide) ?_
      refine lv_icmp_ge (tgt := 33) hx hb dX1_worthOf_6 (by decide) (fun c_1 => ?_) (fun c_1 => ?_)
      · have k_2 : 3 ≤ j := (he_cle (a := 3) (b := j) (by decide) rfl (by omega) (by omega)).mp c_1
        refine lv_iload_n hx hb dX1_worthOf_33 rfl (lv_at hl 2 rfl) ?_
        exact he_ri hQ hx hb hr hlk hP hD hS dX1_worthOf_34 (Nat.le_of_ble_eq_true rfl) (Nat.le_of_ble_eq_true rfl) (()) (rfl) ((congrArg nI (sP_e hac hj (by omega))))
      · have k_3 : ¬ (3 ≤ j) := fun h9 => c_1 ((he_cle (a := 3) (b := j) (by decide) rfl (by omega) (by omega)).mpr h9)
        refine lv_iload_n hx hb dX1_worthOf_9 rfl (lv_at hl 1 rfl) ?_
        refine lv_iload_n hx hb dX1_worthOf_10 rfl (lv_at hl 3 rfl) ?_
        refine lv_ishr hx hb dX1_worthOf_11 ?_
        refine lv_iconst (v := 1) hx hb dX1_worthOf_12 (by decide) ?_
        refine lv_iand hx hb dX1_worthOf_13 ?_
        refine he_top (bI se j) (bI_e se hs8 j (by omega)) ?_
        refine lv_iconst (v := 1) hx hb dX1_worthOf_14 (by decide) ?_
        refine lv_icmp_ne (tgt := 27) hx hb dX1_worthOf_15 (by decide) (fun c_4 => ?_) (fun c_4 => ?_)
        · have hbt : ¬ bt se j = true := bI_n1 c_4
          refine lv_iinc (v := nI (j + 1)) (lv' := [(3, .int (nI (j + 1))), (0, .ref v0), (1, .int (nI se)), (2, .int (nI ac))]) hx hb dX1_worthOf_27 hl (k := 3) rfl (nI_1 j) (by decide) rfl (fun ls hl => ?_)
          refine lv_goto (tgt := 4) hx hb dX1_worthOf_30 (by decide) ?_
          exact ih4 (j + 1) ac (by omega) (by omega) (sP_n hac (if_neg hbt)) _ _ _ hP hD hS (lv_sub hl [1, 2, 3, 0] rfl)
        · have hbt : bt se j = true := bI_1 c_4
          refine lv_iload_n hx hb dX1_worthOf_18 rfl (lv_at hl 2 rfl) ?_
          refine lv_aload_n hx hb dX1_worthOf_19 rfl (lv_at hl 0 rfl) ?_
          refine va_get (v := .ref v1) (T := TX1) (N := 5) hx hb hts inX1 hown hK hP 0 rfl rfl 0 (by decide) f11 (fun _ h9 => h9) rfl dX1_worthOf_20 ?_
          refine lv_iload_n hx hb dX1_worthOf_23 rfl (lv_at hl 3 rfl) ?_
          refine he_iald hx hb hK hP 1 rfl (j) rfl (by first | assumption | decide | omega) (by first | decide | assumption) (nI (Wr j)) (hWo j (by omega) hbt) dX1_worthOf_24 ?_
          refine lv_iadd hx hb dX1_worthOf_25 ?_
          refine he_top (nI (ac + Wr j)) (nI_add ac (Wr j)) ?_
          refine lv_istore_n (lv' := [(2, .int (nI (ac + Wr j))), (0, .ref v0), (1, .int (nI se)), (3, .int (nI j))]) hx hb dX1_worthOf_26 rfl hl (by decide) rfl (fun ls hl => ?_)
          refine lv_iinc (v := nI (j + 1)) (lv' := [(3, .int (nI (j + 1))), (2, .int (nI (ac + Wr j))), (0, .ref v0), (1, .int (nI se))]) hx hb dX1_worthOf_27 hl (k := 3) rfl (nI_1 j) (by decide) rfl (fun ls hl => ?_)
          refine lv_goto (tgt := 4) hx hb dX1_worthOf_30 (by decide) ?_
          exact ih4 (j + 1) (ac + Wr j) (by omega) (by omega) (sP_y hac (if_pos hbt)) _ _ _ hP hD hS (lv_sub hl [2, 3, 1, 0] rfl)
  exact loop4 ((3 - 0) + 1) 0 0 (Nat.lt_succ_self _) (Nat.zero_le _) rfl _ _ _ hP hD hS (lv_sub hl [2, 3, 1, 0] rfl)
set_option maxHeartbeats 4000000 in
set_option maxRecDepth 100000 in
theorem s_X1_menToFell (l : Launch) (g : he_G) (v0 : Nat) (v1 : Nat) (v2 : Nat) (v3 : Nat) (v : Nat) (dg : Int32) (wo : Nat → Int32) (he_ : Nat → Int32) (pf : Nat → Int32) (Wr : Nat → Nat) (ef : Nat → Nat) (se : Nat) (hs8 : se < 8) (hHe : ∀ k, k < 3 → bt se k = true → he_ k = nI (Wr k / 25)) (hPf : ∀ k, k < 3 → pf k = nI (ef k)) : he_I l yX1_menToFell wsX1_menToFell 0 0 0 0 g [.ref v0, .int (nI se)] [(oX1 v0 v1 v2 v3 (nI v) dg), (aI g v1 3 wo), (aI g v2 3 he_), (aI g v3 3 pf)] (fun (r : Int32) (u : Unit) => r = nI (nee Wr ef se)) (fun (u : Unit) => [(oX1 v0 v1 v2 v3 (nI v) dg), (aI g v1 3 wo), (aI g v2 3 he_), (aI g v3 3 pf)]) := by
  refine he_begin (l := l) (g := g) (y := yX1_menToFell) (wl := wsX1_menToFell) (fr := 0) (lo := 0) (mc := 0) (ms := 0) (av := [.ref v0, .int (nI se)]) (ws := [(oX1 v0 v1 v2 v3 (nI v) dg), (aI g v1 3 wo), (aI g v2 3 he_), (aI g v3 3 pf)]) (cc := cX1_menToFell) (maxL := 4) (ret := (some .int)) (fun A => va_Qi (fun (r : Int32) (u : Unit) => r = nI (nee Wr ef se)) (fun u t => he_post g A ((fun (u : Unit) => [(oX1 v0 v1 v2 v3 (nI v) dg), (aI g v1 3 wo), (aI g v2 3 he_), (aI g v3 3 pf)]) u) t) A) (by decide) rfl (Nat.le_of_ble_eq_true rfl) ?_
  intro p e s m args below meth c A ls H locs Q hQ hB
  obtain ⟨hx, hb, hr, hml, hown, hts, hlk, hin, hP, hK, hD, hS, hA, hE, hl⟩ := hB
  have hl : lv_has ls 4 [(0, .ref v0), (1, .int (nI se))] := hl
  have f18 := hts (.fieldLink RX1 18 "HiredEnemy$Battle" "put" "[I") (iwoX1_menToFell (k := 0) rfl)
  have inX1 : ∀ w ∈ wsX10, w ∈ wsX1_menToFell := innX1_menToFell_X1
  have f15 := hts (.fieldLink RX1 15 "HiredEnemy$Battle" "held" "[I") (iwoX1_menToFell (k := 1) rfl)
  refine lv_iconst (v := 0) hx hb dX1_menToFell_0 (by decide) ?_
  refine lv_istore_n (lv' := [(2, .int 0), (0, .ref v0), (1, .int (nI se))]) hx hb dX1_menToFell_1 rfl hl (by decide) rfl (fun ls hl => ?_)
  refine lv_iconst (v := 0) hx hb dX1_menToFell_2 (by decide) ?_
  refine lv_istore_n (lv' := [(3, .int 0), (2, .int 0), (0, .ref v0), (1, .int (nI se))]) hx hb dX1_menToFell_3 rfl hl (by decide) rfl (fun ls hl => ?_)
  have loop4 : ∀ (n9 : Nat) (j : Nat) (ac : Nat), 3 - j < n9 → (j ≤ 3) → (ac = sP (fun k => if bt se k = true then ef k + Wr k / 25 + 1 else 0) j) → ∀ (H : Heap) (locs : List Loc) (ls : Array Slot), va_P g.1 vwCl [(oX1 v0 v1 v2 v3 (nI v) dg), (aI g v1 3 wo), (aI g v2 3 he_), (aI g v3 3 pf)] H → va_D A [(oX1 v0 v1 v2 v3 (nI v) dg), (aI g v1 3 wo), (aI g v2 3 he_), (aI g v3 3 pf)] → va_S A s.heap H locs → lv_has ls 4 [(0, .ref v0), (1, .int (nI se)), (2, .int (nI ac)), (3, .int (nI j))] → W p l e (he_room 0 0 0 0) s m args below meth c H locs 0 0 Q (F0 m 4 ls []) := by
    intro n9
    induction n9 with
    | zero => intro j ac hm9; exact absurd hm9 (Nat.not_lt_zero _)
    | succ n9 ih4 =>
      intro j ac hm9 hj hac H locs ls hP hD hS hl
      refine lv_iload_n hx hb dX1_menToFell_4 rfl (lv_at hl 3 rfl) ?_
      refine lv_iconst (v := 3) hx hb dX1_menToFell_5 (by decide) ?_
      refine lv_icmp_ge (tgt := 42) hx hb dX1_menToFell_6 (by decide) (fun c_1 => ?_) (fun c_1 => ?_)
      · have k_2 : 3 ≤ j := (he_cle (a := 3) (b := j) (by decide) rfl (by omega) (by omega)).mp c_1
        refine lv_iload_n hx hb dX1_menToFell_42 rfl (lv_at hl 2 rfl) ?_
        exact he_ri hQ hx hb hr hlk hP hD hS dX1_menToFell_43 (Nat.le_of_ble_eq_true rfl) (Nat.le_of_ble_eq_true rfl) (()) (rfl) ((congrArg nI (sP_e hac hj (by omega))))
      · have k_3 : ¬ (3 ≤ j) := fun h9 => c_1 ((he_cle (a := 3) (b := j) (by decide) rfl (by omega) (by omega)).mpr h9)
        refine lv_iload_n hx hb dX1_menToFell_9 rfl (lv_at hl 1 rfl) ?_
        refine lv_iload_n hx hb dX1_menToFell_10 rfl (lv_at hl 3 rfl) ?_
        refine lv_ishr hx hb dX1_menToFell_11 ?_
        refine lv_iconst (v := 1) hx hb dX1_menToFell_12 (by decide) ?_
        refine lv_iand hx hb dX1_menToFell_13 ?_
        refine he_top (bI se j) (bI_e se hs8 j (by omega)) ?_
        refine lv_iconst (v := 1) hx hb dX1_menToFell_14 (by decide) ?_
        refine lv_icmp_ne (tgt := 36) hx hb dX1_menToFell_15 (by decide) (fun c_4 => ?_) (fun c_4 => ?_)
        · have hbt : ¬ bt se j = true := bI_n1 c_4
          refine lv_iinc (v := nI (j + 1)) (lv' := [(3, .int (nI (j + 1))), (0, .ref v0), (1, .int (nI se)), (2, .int (nI ac))]) hx hb dX1_menToFell_36 hl (k := 3) rfl (nI_1 j) (by decide) rfl (fun ls hl => ?_)
          refine lv_goto (tgt := 4) hx hb dX1_menToFell_39 (by decide) ?_
          exact ih4 (j + 1) ac (by omega) (by omega) (sP_n hac (if_neg hbt)) _ _ _ hP hD hS (lv_sub hl [1, 2, 3, 0] rfl)
        · have hbt : bt se j = true := bI_1 c_4
          refine lv_iload_n hx hb dX1_menToFell_18 rfl (lv_at hl 2 rfl) ?_
          refine lv_aload_n hx hb dX1_menToFell_19 rfl (lv_at hl 0 rfl) ?_
          refine va_get (v := .ref v3) (T := TX1) (N := 5) hx hb hts inX1 hown hK hP 0 rfl rfl 2 (by decide) f18 (fun _ h9 => h9) rfl dX1_menToFell_20 ?_
          refine lv_iload_n hx hb dX1_menToFell_23 rfl (lv_at hl 3 rfl) ?_
          refine he_iald hx hb hK hP 3 rfl (j) rfl (by first | assumption | decide | omega) (by first | decide | assumption) (nI (ef j)) (hPf j (by omega)) dX1_menToFell_24 ?_
          refine lv_aload_n hx hb dX1_menToFell_25 rfl (lv_at hl 0 rfl) ?_
          refine va_get (v := .ref v2) (T := TX1) (N := 5) hx hb hts inX1 hown hK hP 0 rfl rfl 1 (by decide) f15 (fun _ h9 => h9) rfl dX1_menToFell_26 ?_
          refine lv_iload_n hx hb dX1_menToFell_29 rfl (lv_at hl 3 rfl) ?_
          refine he_iald hx hb hK hP 2 rfl (j) rfl (by first | assumption | decide | omega) (by first | decide | assumption) (nI (Wr j / 25)) (hHe j (by omega) hbt) dX1_menToFell_30 ?_
          refine lv_iadd hx hb dX1_menToFell_31 ?_
          refine he_top (nI (ef j + Wr j / 25)) (nI_add (ef j) (Wr j / 25)) ?_
          refine lv_iconst (v := 1) hx hb dX1_menToFell_32 (by decide) ?_
          refine lv_iadd hx hb dX1_menToFell_33 ?_
          refine he_top (nI (ef j + Wr j / 25 + 1)) (nI_add (ef j + Wr j / 25) 1) ?_
          refine lv_iadd hx hb dX1_menToFell_34 ?_
          refine he_top (nI (ac + (ef j + Wr j / 25 + 1))) (nI_add ac (ef j + Wr j / 25 + 1)) ?_
          refine lv_istore_n (lv' := [(2, .int (nI (ac + (ef j + Wr j / 25 + 1)))), (0, .ref v0), (1, .int (nI se)), (3, .int (nI j))]) hx hb dX1_menToFell_35 rfl hl (by decide) rfl (fun ls hl => ?_)
          refine lv_iinc (v := nI (j + 1)) (lv' := [(3, .int (nI (j + 1))), (2, .int (nI (ac + (ef j + Wr j / 25 + 1)))), (0, .ref v0), (1, .int (nI se))]) hx hb dX1_menToFell_36 hl (k := 3) rfl (nI_1 j) (by decide) rfl (fun ls hl => ?_)
          refine lv_goto (tgt := 4) hx hb dX1_menToFell_39 (by decide) ?_
          exact ih4 (j + 1) (ac + (ef j + Wr j / 25 + 1)) (by omega) (by omega) (sP_y hac (if_pos hbt)) _ _ _ hP hD hS (lv_sub hl [2, 3, 1, 0] rfl)
  exact loop4 ((3 - 0) + 1) 0 0 (Nat.lt_succ_self _) (Nat.zero_le _) rfl _ _ _ hP hD hS (lv_sub hl [2, 3, 1, 0] rfl)
set_option maxHeartbeats 4000000 in
set_option maxRecDepth 100000 in
theorem s_X1_menToHold (l : Launch) (g : he_G) (v0 : Nat) (v1 : Nat) (v2 : Nat) (v3 : Nat) (v : Nat) (dg : Int32) (wo : Nat → Int32) (he_ : Nat → Int32) (pf : Nat → Int32) (Wr : Nat → Nat) (ef : Nat → Nat) (se : Nat) (hs8 : se < 8) (hHe : ∀ k, k < 3 → bt se k = true → he_ k = nI (Wr k / 25)) (hPf : ∀ k, k < 3 → pf k = nI (ef k)) (hef : ∀ k, ef k ≤ 6) (hW9 : ∀ k, Wr k ≤ 99) : he_I l yX1_menToHold wsX1_menToHold 1 14 0 0 g [.ref v0, .int (nI se)] [(oX1 v0 v1 v2 v3 (nI v) dg), (aI g v1 3 wo), (aI g v2 3 he_), (aI g v3 3 pf)] (fun (r : Int32) (u : Unit) => r = nI (hol Wr ef se)) (fun (u : Unit) => [(oX1 v0 v1 v2 v3 (nI v) dg), (aI g v1 3 wo), (aI g v2 3 he_), (aI g v3 3 pf)]) := by
  refine he_begin (l := l) (g := g) (y := yX1_menToHold) (wl := wsX1_menToHold) (fr := 1) (lo := 14) (mc := 0) (ms := 0) (av := [.ref v0, .int (nI se)]) (ws := [(oX1 v0 v1 v2 v3 (nI v) dg), (aI g v1 3 wo), (aI g v2 3 he_), (aI g v3 3 pf)]) (cc := cX1_menToHold) (maxL := 4) (ret := (some .int)) (fun A => va_Qi (fun (r : Int32) (u : Unit) => r = nI (hol Wr ef se)) (fun u t => he_post g A ((fun (u : Unit) => [(oX1 v0 v1 v2 v3 (nI v) dg), (aI g v1 3 wo), (aI g v2 3 he_), (aI g v3 3 pf)]) u) t) A) (by decide) rfl (Nat.le_of_ble_eq_true rfl) ?_
  intro p e s m args below meth c A ls H locs Q hQ hB
  obtain ⟨hx, hb, hr, hml, hown, hts, hlk, hin, hP, hK, hD, hS, hA, hE, hl⟩ := hB
  have hl : lv_has ls 4 [(0, .ref v0), (1, .int (nI se))] := hl
  have f18 := hts (.fieldLink RX1 18 "HiredEnemy$Battle" "put" "[I") (iwoX1_menToHold (k := 0) rfl)
  have inX1 : ∀ w ∈ wsX10, w ∈ wsX1_menToHold := innX1_menToHold_X1
  have f15 := hts (.fieldLink RX1 15 "HiredEnemy$Battle" "held" "[I") (iwoX1_menToHold (k := 1) rfl)
  have ml51 := hts (.methodLink RX1 51 Lib.Math.max.name) (iwoX1_menToHold (k := 2) rfl)
  have msmax := hts (.static Lib.Math.max.name) (iwoX1_menToHold (k := 3) rfl)
  have mi := hts (.initialized "java/lang/Math") (iwoX1_menToHold (k := 4) rfl)
  have mcmax := hts (.code Lib.Math.max.name Lib.Math.max.code 2 (some .int)) (iwoX1_menToHold (k := 5) rfl)
  refine lv_iconst (v := 0) hx hb dX1_menToHold_0 (by decide) ?_
  refine lv_istore_n (lv' := [(2, .int 0), (0, .ref v0), (1, .int (nI se))]) hx hb dX1_menToHold_1 rfl hl (by decide) rfl (fun ls hl => ?_)
  refine lv_iconst (v := 0) hx hb dX1_menToHold_2 (by decide) ?_
  refine lv_istore_n (lv' := [(3, .int 0), (2, .int 0), (0, .ref v0), (1, .int (nI se))]) hx hb dX1_menToHold_3 rfl hl (by decide) rfl (fun ls hl => ?_)
  have loop4 : ∀ (n9 : Nat) (j : Nat) (ac : Nat), 3 - j < n9 → (j ≤ 3) → (ac = sP (fun k => if bt se k = true then ef k - Wr k / 25 else 0) j) → ∀ (H : Heap) (locs : List Loc) (ls : Array Slot), va_P g.1 vwCl [(oX1 v0 v1 v2 v3 (nI v) dg), (aI g v1 3 wo), (aI g v2 3 he_), (aI g v3 3 pf)] H → va_D A [(oX1 v0 v1 v2 v3 (nI v) dg), (aI g v1 3 wo), (aI g v2 3 he_), (aI g v3 3 pf)] → va_S A s.heap H locs → lv_has ls 4 [(0, .ref v0), (1, .int (nI se)), (2, .int (nI ac)), (3, .int (nI j))] → W p l e (he_room 1 14 0 0) s m args below meth c H locs 0 0 Q (F0 m 4 ls []) := by
    intro n9
    induction n9 with
    | zero => intro j ac hm9; exact absurd hm9 (Nat.not_lt_zero _)
    | succ n9 ih4 =>
      intro j ac hm9 hj hac H locs ls hP hD hS hl
      refine lv_iload_n hx hb dX1_menToHold_4 rfl (lv_at hl 3 rfl) ?_
      refine lv_iconst (v := 3) hx hb dX1_menToHold_5 (by decide) ?_
      refine lv_icmp_ge (tgt := 44) hx hb dX1_menToHold_6 (by decide) (fun c_1 => ?_) (fun c_1 => ?_)
      · have k_2 : 3 ≤ j := (he_cle (a := 3) (b := j) (by decide) rfl (by omega) (by omega)).mp c_1
        refine lv_iload_n hx hb dX1_menToHold_44 rfl (lv_at hl 2 rfl) ?_
        exact he_ri hQ hx hb hr hlk hP hD hS dX1_menToHold_45 (Nat.le_of_ble_eq_true rfl) (Nat.le_of_ble_eq_true rfl) (()) (rfl) ((congrArg nI (sP_e hac hj (by omega))))
      · have k_3 : ¬ (3 ≤ j) := fun h9 => c_1 ((he_cle (a := 3) (b := j) (by decide) rfl (by omega) (by omega)).mpr h9)
        refine lv_iload_n hx hb dX1_menToHold_9 rfl (lv_at hl 1 rfl) ?_
        refine lv_iload_n hx hb dX1_menToHold_10 rfl (lv_at hl 3 rfl) ?_
        refine lv_ishr hx hb dX1_menToHold_11 ?_
        refine lv_iconst (v := 1) hx hb dX1_menToHold_12 (by decide) ?_
        refine lv_iand hx hb dX1_menToHold_13 ?_
        refine he_top (bI se j) (bI_e se hs8 j (by omega)) ?_
        refine lv_iconst (v := 1) hx hb dX1_menToHold_14 (by decide) ?_
        refine lv_icmp_ne (tgt := 38) hx hb dX1_menToHold_15 (by decide) (fun c_4 => ?_) (fun c_4 => ?_)
        · have hbt : ¬ bt se j = true := bI_n1 c_4
          refine lv_iinc (v := nI (j + 1)) (lv' := [(3, .int (nI (j + 1))), (0, .ref v0), (1, .int (nI se)), (2, .int (nI ac))]) hx hb dX1_menToHold_38 hl (k := 3) rfl (nI_1 j) (by decide) rfl (fun ls hl => ?_)
          refine lv_goto (tgt := 4) hx hb dX1_menToHold_41 (by decide) ?_
          exact ih4 (j + 1) ac (by omega) (by omega) (sP_n hac (if_neg hbt)) _ _ _ hP hD hS (lv_sub hl [1, 2, 3, 0] rfl)
        · have hbt : bt se j = true := bI_1 c_4
          refine lv_iload_n hx hb dX1_menToHold_18 rfl (lv_at hl 2 rfl) ?_
          refine lv_iconst (v := 0) hx hb dX1_menToHold_19 (by decide) ?_
          refine lv_aload_n hx hb dX1_menToHold_20 rfl (lv_at hl 0 rfl) ?_
          refine va_get (v := .ref v3) (T := TX1) (N := 5) hx hb hts inX1 hown hK hP 0 rfl rfl 2 (by decide) f18 (fun _ h9 => h9) rfl dX1_menToHold_21 ?_
          refine lv_iload_n hx hb dX1_menToHold_24 rfl (lv_at hl 3 rfl) ?_
          refine he_iald hx hb hK hP 3 rfl (j) rfl (by first | assumption | decide | omega) (by first | decide | assumption) (nI (ef j)) (hPf j (by omega)) dX1_menToHold_25 ?_
          refine lv_aload_n hx hb dX1_menToHold_26 rfl (lv_at hl 0 rfl) ?_
          refine va_get (v := .ref v2) (T := TX1) (N := 5) hx hb hts inX1 hown hK hP 0 rfl rfl 1 (by decide) f15 (fun _ h9 => h9) rfl dX1_menToHold_27 ?_
          refine lv_iload_n hx hb dX1_menToHold_30 rfl (lv_at hl 3 rfl) ?_
          refine he_iald hx hb hK hP 2 rfl (j) rfl (by first | assumption | decide | omega) (by first | decide | assumption) (nI (Wr j / 25)) (hHe j (by omega) hbt) dX1_menToHold_31 ?_
          refine lv_isub hx hb dX1_menToHold_32 ?_
          refine va_mmax hx hb (by rw [hml]; exact hl.1.symm) hown ml51 msmax mi mcmax (by decide) (Nat.le_of_ble_eq_true rfl) (Nat.le_of_ble_eq_true rfl) (Nat.le_of_ble_eq_true rfl) dX1_menToHold_33 ?_
          refine he_top (nI (ef j - Wr j / 25)) (mx_sub (ef j) (by have := hef j; omega) (Wr j / 25) (by have := hW9 j; omega)) ?_
          refine lv_iadd hx hb dX1_menToHold_36 ?_
          refine he_top (nI (ac + (ef j - Wr j / 25))) (nI_add ac (ef j - Wr j / 25)) ?_
          refine lv_istore_n (lv' := [(2, .int (nI (ac + (ef j - Wr j / 25)))), (0, .ref v0), (1, .int (nI se)), (3, .int (nI j))]) hx hb dX1_menToHold_37 rfl hl (by decide) rfl (fun ls hl => ?_)
          refine lv_iinc (v := nI (j + 1)) (lv' := [(3, .int (nI (j + 1))), (2, .int (nI (ac + (ef j - Wr j / 25)))), (0, .ref v0), (1, .int (nI se))]) hx hb dX1_menToHold_38 hl (k := 3) rfl (nI_1 j) (by decide) rfl (fun ls hl => ?_)
          refine lv_goto (tgt := 4) hx hb dX1_menToHold_41 (by decide) ?_
          exact ih4 (j + 1) (ac + (ef j - Wr j / 25)) (by omega) (by omega) (sP_y hac (if_pos hbt)) _ _ _ hP hD hS (lv_sub hl [2, 3, 1, 0] rfl)
  exact loop4 ((3 - 0) + 1) 0 0 (Nat.lt_succ_self _) (Nat.zero_le _) rfl _ _ _ hP hD hS (lv_sub hl [2, 3, 1, 0] rfl)
set_option maxHeartbeats 4000000 in
set_option maxRecDepth 100000 in
theorem s_X1_mostFelled (l : Launch) (g : he_G) (v0 : Nat) (v1 : Nat) (v2 : Nat) (v3 : Nat) (v : Nat) (dg : Int32) (wo : Nat → Int32) (he_ : Nat → Int32) (pf : Nat → Int32) (Wr : Nat → Nat) (ef : Nat → Nat) (an : Nat) (a : Nat) (ha8 : an < 8) (ha6 : a ≤ 6) (hWH : ∀ k, k < 3 → bt an k = true → wo k = nI (Wr k) ∧ he_ k = nI (Wr k / 25)) (hPf : ∀ k, k < 3 → pf k = nI (ef k)) (hef : ∀ k, ef k ≤ 6) (hW9 : ∀ k, Wr k ≤ 99) : he_I l yX1_mostFelled wsX1_mostFelled 1 23 0 0 g [.ref v0, .int (nI an), .int (nI a)] [(oX1 v0 v1 v2 v3 (nI v) dg), (aI g v1 3 wo), (aI g v2 3 he_), (aI g v3 3 pf)] (fun (r : Int32) (u : Unit) => r = nI (vS Wr an a ef)) (fun (u : Unit) => [(oX1 v0 v1 v2 v3 (nI v) dg), (aI g v1 3 wo), (aI g v2 3 he_), (aI g v3 3 pf)]) := by
  refine he_begin (l := l) (g := g) (y := yX1_mostFelled) (wl := wsX1_mostFelled) (fr := 1) (lo := 23) (mc := 0) (ms := 0) (av := [.ref v0, .int (nI an), .int (nI a)]) (ws := [(oX1 v0 v1 v2 v3 (nI v) dg), (aI g v1 3 wo), (aI g v2 3 he_), (aI g v3 3 pf)]) (cc := cX1_mostFelled) (maxL := 5) (ret := (some .int)) (fun A => va_Qi (fun (r : Int32) (u : Unit) => r = nI (vS Wr an a ef)) (fun u t => he_post g A ((fun (u : Unit) => [(oX1 v0 v1 v2 v3 (nI v) dg), (aI g v1 3 wo), (aI g v2 3 he_), (aI g v3 3 pf)]) u) t) A) (by decide) rfl (Nat.le_of_ble_eq_true rfl) ?_
  intro p e s m args below meth c A ls H locs Q hQ hB
  obtain ⟨hx, hb, hr, hml, hown, hts, hlk, hin, hP, hK, hD, hS, hA, hE, hl⟩ := hB
  have hl : lv_has ls 5 [(0, .ref v0), (1, .int (nI an)), (2, .int (nI a))] := hl
  have ml51 := hts (.methodLink RX1 51 Lib.Math.max.name) (iwoX1_mostFelled (k := 0) rfl)
  have msmax := hts (.static Lib.Math.max.name) (iwoX1_mostFelled (k := 1) rfl)
  have mi := hts (.initialized "java/lang/Math") (iwoX1_mostFelled (k := 2) rfl)
  have mcmax := hts (.code Lib.Math.max.name Lib.Math.max.code 2 (some .int)) (iwoX1_mostFelled (k := 3) rfl)
  refine lv_iconst (v := 0) hx hb dX1_mostFelled_0 (by decide) ?_
  refine lv_istore_n (lv' := [(3, .int 0), (0, .ref v0), (1, .int (nI an)), (2, .int (nI a))]) hx hb dX1_mostFelled_1 rfl hl (by decide) rfl (fun ls hl => ?_)
  refine lv_iconst (v := 0) hx hb dX1_mostFelled_2 (by decide) ?_
  refine lv_istore (lv' := [(4, .int 0), (3, .int 0), (0, .ref v0), (1, .int (nI an)), (2, .int (nI a))]) hx hb dX1_mostFelled_3 hl (by decide) rfl (fun ls hl => ?_)
  have loop5 : ∀ (n9 : Nat) (j : Nat) (mx : Nat), 8 - j < n9 → (j ≤ 8) → (mx = mxF (fun s9 => subB s9 an && decide (nee Wr ef s9 ≤ a)) (wor Wr) j) → ∀ (H : Heap) (locs : List Loc) (ls : Array Slot), va_P g.1 vwCl [(oX1 v0 v1 v2 v3 (nI v) dg), (aI g v1 3 wo), (aI g v2 3 he_), (aI g v3 3 pf)] H → va_D A [(oX1 v0 v1 v2 v3 (nI v) dg), (aI g v1 3 wo), (aI g v2 3 he_), (aI g v3 3 pf)] → va_S A s.heap H locs → lv_has ls 5 [(0, .ref v0), (1, .int (nI an)), (2, .int (nI a)), (3, .int (nI mx)), (4, .int (nI j))] → W p l e (he_room 1 23 0 0) s m args below meth c H locs 0 0 Q (F0 m 5 ls []) := by
    intro n9
    induction n9 with
    | zero => intro j mx hm9; exact absurd hm9 (Nat.not_lt_zero _)
    | succ n9 ih5 =>
      intro j mx hm9 hj hmx H locs ls hP hD hS hl
      refine lv_iload hx hb dX1_mostFelled_5 (lv_at hl 4 rfl) ?_
      refine lv_bipush (v := 8) hx hb dX1_mostFelled_7 (by decide) ?_
      refine lv_icmp_ge (tgt := 48) hx hb dX1_mostFelled_9 (by decide) (fun c_1 => ?_) (fun c_1 => ?_)
      · have k_2 : 8 ≤ j := (he_cle (a := 8) (b := j) (by decide) rfl (by omega) (by omega)).mp c_1
        refine lv_iload_n hx hb dX1_mostFelled_48 rfl (lv_at hl 3 rfl) ?_
        exact he_ri hQ hx hb hr hlk hP hD hS dX1_mostFelled_49 (Nat.le_of_ble_eq_true rfl) (Nat.le_of_ble_eq_true rfl) (()) (rfl) ((congrArg nI (by rw [hmx, show j = 8 by omega]; rfl)))
      · have k_3 : ¬ (8 ≤ j) := fun h9 => c_1 ((he_cle (a := 8) (b := j) (by decide) rfl (by omega) (by omega)).mpr h9)
        refine lv_iload hx hb dX1_mostFelled_12 (lv_at hl 4 rfl) ?_
        refine lv_iload_n hx hb dX1_mostFelled_14 rfl (lv_at hl 1 rfl) ?_
        refine lv_iconst (v := (-1)) hx hb dX1_mostFelled_15 (by decide) ?_
        refine lv_ixor hx hb dX1_mostFelled_16 ?_
        refine lv_iand hx hb dX1_mostFelled_17 ?_
        refine lv_if_ne (tgt := 42) hx hb dX1_mostFelled_18 (by decide) (fun c_4 => ?_) (fun c_4 => ?_)
        · have hsb : ¬ subB j an = true := fun h9 => c_4 ((sb_iff j (by omega) an ha8).mpr h9)
          refine lv_iinc (v := nI (j + 1)) (lv' := [(4, .int (nI (j + 1))), (0, .ref v0), (1, .int (nI an)), (2, .int (nI a)), (3, .int (nI mx))]) hx hb dX1_mostFelled_42 hl (k := 4) rfl (nI_1 j) (by decide) rfl (fun ls hl => ?_)
          refine lv_goto (tgt := 5) hx hb dX1_mostFelled_45 (by decide) ?_
          exact ih5 (j + 1) mx (by omega) (by omega) (mxF_n (P := fun s9 => subB s9 an && decide (nee Wr ef s9 ≤ a)) hmx (pS_n1 hsb)) _ _ _ hP hD hS (lv_sub hl [1, 2, 3, 4, 0] rfl)
        · have hsb : subB j an = true := (sb_iff j (by omega) an ha8).mp c_4
          refine lv_aload_n hx hb dX1_mostFelled_21 rfl (lv_at hl 0 rfl) ?_
          refine lv_iload hx hb dX1_mostFelled_22 (lv_at hl 4 rfl) ?_
          refine he_ci (wc := [(oX1 v0 v1 v2 v3 (nI v) dg), (aI g v1 3 wo), (aI g v2 3 he_), (aI g v3 3 pf)]) (wr := []) (va_runV (As := [.int (nI j)]) (rest := []) ⟨hx, hb, hml, hown, hts⟩ (s_X1_menToFell l g v0 v1 v2 v3 v dg wo he_ pf Wr ef j (by omega) (fun k9 h9 h8 => (hWH k9 h9 (sub_k hsb h9 h8)).2) (by first | assumption | decide | omega) H.size) (cwV 1 hts gX1_mostFelled_X1_menToFell rfl rfl rfl (by decide +kernel) ⟨Nat.le_of_ble_eq_true rfl, Nat.le_of_ble_eq_true rfl⟩) (he_preV (wc := [(oX1 v0 v1 v2 v3 (nI v) dg), (aI g v1 3 wo), (aI g v2 3 he_), (aI g v3 3 pf)]) hK hP hD hS hA hE [0, 1, 2, 3] rfl rfl 0 rfl rfl) rfl rfl hl.1 rfl (lv_room (Nat.le_of_ble_eq_true rfl)) dX1_mostFelled_24 ⟨(Nat.le_of_ble_eq_true rfl), (Nat.le_of_ble_eq_true rfl)⟩) hP hD hS hA [0, 1, 2, 3] [] rfl rfl rfl (by decide) (fun r_5 u_6 H locs h_7 hP hD hS => ?_)
          subst h_7
          have hP : va_P g.1 vwCl [(oX1 v0 v1 v2 v3 (nI v) dg), (aI g v1 3 wo), (aI g v2 3 he_), (aI g v3 3 pf)] H := hP
          have hD : va_D A [(oX1 v0 v1 v2 v3 (nI v) dg), (aI g v1 3 wo), (aI g v2 3 he_), (aI g v3 3 pf)] := hD
          refine lv_iload_n hx hb dX1_mostFelled_27 rfl (lv_at hl 2 rfl) ?_
          have hn9 := nee_le (s := j) hW9 hef
          refine lv_icmp_gt (tgt := 42) hx hb dX1_mostFelled_28 (by decide) (fun c_8 => ?_) (fun c_8 => ?_)
          · have k_9 : a < nee Wr ef j := (he_clt (a := a) (b := nee Wr ef j) rfl rfl (by omega) (by omega)).mp c_8
            refine lv_iinc (v := nI (j + 1)) (lv' := [(4, .int (nI (j + 1))), (0, .ref v0), (1, .int (nI an)), (2, .int (nI a)), (3, .int (nI mx))]) hx hb dX1_mostFelled_42 hl (k := 4) rfl (nI_1 j) (by decide) rfl (fun ls hl => ?_)
            refine lv_goto (tgt := 5) hx hb dX1_mostFelled_45 (by decide) ?_
            exact ih5 (j + 1) mx (by omega) (by omega) (mxF_n (P := fun s9 => subB s9 an && decide (nee Wr ef s9 ≤ a)) hmx (pS_n2 (by omega))) _ _ _ hP hD hS (lv_sub hl [1, 2, 3, 4, 0] rfl)
          · have k_10 : ¬ (a < nee Wr ef j) := fun h9 => c_8 ((he_clt (a := a) (b := nee Wr ef j) rfl rfl (by omega) (by omega)).mpr h9)
            refine lv_iload_n hx hb dX1_mostFelled_31 rfl (lv_at hl 3 rfl) ?_
            refine lv_aload_n hx hb dX1_mostFelled_32 rfl (lv_at hl 0 rfl) ?_
            refine lv_iload hx hb dX1_mostFelled_33 (lv_at hl 4 rfl) ?_
            refine he_ci (wc := [(oX1 v0 v1 v2 v3 (nI v) dg), (aI g v1 3 wo), (aI g v2 3 he_), (aI g v3 3 pf)]) (wr := []) (va_runV (As := [.int (nI j)]) (rest := [.int (nI mx)]) ⟨hx, hb, hml, hown, hts⟩ (s_X1_worthOf l g v0 v1 v2 v3 v dg wo he_ pf Wr j (by omega) (fun k9 h9 h8 => (hWH k9 h9 (sub_k hsb h9 h8)).1) H.size) (cwV 1 hts gX1_mostFelled_X1_worthOf rfl rfl rfl (by decide +kernel) ⟨Nat.le_of_ble_eq_true rfl, Nat.le_of_ble_eq_true rfl⟩) (he_preV (wc := [(oX1 v0 v1 v2 v3 (nI v) dg), (aI g v1 3 wo), (aI g v2 3 he_), (aI g v3 3 pf)]) hK hP hD hS hA hE [0, 1, 2, 3] rfl rfl 0 rfl rfl) rfl rfl hl.1 rfl (lv_room (Nat.le_of_ble_eq_true rfl)) dX1_mostFelled_35 ⟨(Nat.le_of_ble_eq_true rfl), (Nat.le_of_ble_eq_true rfl)⟩) hP hD hS hA [0, 1, 2, 3] [] rfl rfl rfl (by decide) (fun r_11 u_12 H locs h_13 hP hD hS => ?_)
            subst h_13
            have hP : va_P g.1 vwCl [(oX1 v0 v1 v2 v3 (nI v) dg), (aI g v1 3 wo), (aI g v2 3 he_), (aI g v3 3 pf)] H := hP
            have hD : va_D A [(oX1 v0 v1 v2 v3 (nI v) dg), (aI g v1 3 wo), (aI g v2 3 he_), (aI g v3 3 pf)] := hD
            refine va_mmax hx hb (by rw [hml]; exact hl.1.symm) hown ml51 msmax mi mcmax (by decide) (Nat.le_of_ble_eq_true rfl) (Nat.le_of_ble_eq_true rfl) (Nat.le_of_ble_eq_true rfl) dX1_mostFelled_38 ?_
            refine he_top (nI (if mx < wor Wr j then wor Wr j else mx)) (mx_if (by rw [hmx]; have := mx_le (P := fun s9 => subB s9 an && decide (nee Wr ef s9 ≤ a)) (v := wor Wr) (B := 297) j (fun n9 _ _ => wor_le hW9 n9); omega) (by have := wor_le hW9 j; omega)) ?_
            refine lv_istore_n (lv' := [(3, .int (nI (if mx < wor Wr j then wor Wr j else mx))), (0, .ref v0), (1, .int (nI an)), (2, .int (nI a)), (4, .int (nI j))]) hx hb dX1_mostFelled_41 rfl hl (by decide) rfl (fun ls hl => ?_)
            refine lv_iinc (v := nI (j + 1)) (lv' := [(4, .int (nI (j + 1))), (3, .int (nI (if mx < wor Wr j then wor Wr j else mx))), (0, .ref v0), (1, .int (nI an)), (2, .int (nI a))]) hx hb dX1_mostFelled_42 hl (k := 4) rfl (nI_1 j) (by decide) rfl (fun ls hl => ?_)
            refine lv_goto (tgt := 5) hx hb dX1_mostFelled_45 (by decide) ?_
            exact ih5 (j + 1) (if mx < wor Wr j then wor Wr j else mx) (by omega) (by omega) (mxF_y (P := fun s9 => subB s9 an && decide (nee Wr ef s9 ≤ a)) hmx (pS_y hsb (by omega))) _ _ _ hP hD hS (lv_sub hl [2, 3, 4, 1, 0] rfl)
  exact loop5 ((8 - 0) + 1) 0 0 (Nat.lt_succ_self _) (Nat.zero_le _) rfl _ _ _ hP hD hS (lv_sub hl [2, 3, 4, 1, 0] rfl)
set_option maxHeartbeats 4000000 in
set_option maxRecDepth 100000 in
theorem s_X1_leastFelled (l : Launch) (g : he_G) (v0 : Nat) (v1 : Nat) (v2 : Nat) (v3 : Nat) (v : Nat) (dg : Int32) (wo : Nat → Int32) (he_ : Nat → Int32) (pf : Nat → Int32) (Wr : Nat → Nat) (ef : Nat → Nat) (a : Nat) (hv3 : v ≤ 3) (ha6 : a ≤ 6) (hWH : ∀ k, k < 3 → bt (allN v) k = true → wo k = nI (Wr k) ∧ he_ k = nI (Wr k / 25)) (hPf : ∀ k, k < 3 → pf k = nI (ef k)) (hef : ∀ k, ef k ≤ 6) (hW9 : ∀ k, Wr k ≤ 99) : he_I l yX1_leastFelled wsX1_leastFelled 2 37 0 0 g [.ref v0, .int (nI a)] [(oX1 v0 v1 v2 v3 (nI v) dg), (aI g v1 3 wo), (aI g v2 3 he_), (aI g v3 3 pf)] (fun (r : Int32) (u : Unit) => r = nI (uS Wr (allN v) a ef)) (fun (u : Unit) => [(oX1 v0 v1 v2 v3 (nI v) dg), (aI g v1 3 wo), (aI g v2 3 he_), (aI g v3 3 pf)]) := by
  refine he_begin (l := l) (g := g) (y := yX1_leastFelled) (wl := wsX1_leastFelled) (fr := 2) (lo := 37) (mc := 0) (ms := 0) (av := [.ref v0, .int (nI a)]) (ws := [(oX1 v0 v1 v2 v3 (nI v) dg), (aI g v1 3 wo), (aI g v2 3 he_), (aI g v3 3 pf)]) (cc := cX1_leastFelled) (maxL := 4) (ret := (some .int)) (fun A => va_Qi (fun (r : Int32) (u : Unit) => r = nI (uS Wr (allN v) a ef)) (fun u t => he_post g A ((fun (u : Unit) => [(oX1 v0 v1 v2 v3 (nI v) dg), (aI g v1 3 wo), (aI g v2 3 he_), (aI g v3 3 pf)]) u) t) A) (by decide) rfl (Nat.le_of_ble_eq_true rfl) ?_
  intro p e s m args below meth c A ls H locs Q hQ hB
  obtain ⟨hx, hb, hr, hml, hown, hts, hlk, hin, hP, hK, hD, hS, hA, hE, hl⟩ := hB
  have hl : lv_has ls 4 [(0, .ref v0), (1, .int (nI a))] := hl
  have h79 := all_7 hv3
  have ml51 := hts (.methodLink RX1 51 Lib.Math.max.name) (iwoX1_leastFelled (k := 0) rfl)
  have msmax := hts (.static Lib.Math.max.name) (iwoX1_leastFelled (k := 1) rfl)
  have mi := hts (.initialized "java/lang/Math") (iwoX1_leastFelled (k := 2) rfl)
  have mcmax := hts (.code Lib.Math.max.name Lib.Math.max.code 2 (some .int)) (by decide +kernel)
  refine lv_iconst (v := 0) hx hb dX1_leastFelled_0 (by decide) ?_
  refine lv_istore_n (lv' := [(2, .int 0), (0, .ref v0), (1, .int (nI a))]) hx hb dX1_leastFelled_1 rfl hl (by decide) rfl (fun ls hl => ?_)
  refine lv_iconst (v := 0) hx hb dX1_leastFelled_2 (by decide) ?_
  refine lv_istore_n (lv' := [(3, .int 0), (2, .int 0), (0, .ref v0), (1, .int (nI a))]) hx hb dX1_leastFelled_3 rfl hl (by decide) rfl (fun ls hl => ?_)
  have loop4 : ∀ (n9 : Nat) (j : Nat) (mx : Nat), 8 - j < n9 → (j ≤ 8) → (j ≤ allN v + 1) → (mx = mxF (fun s9 => subB s9 (allN v) && decide (hol Wr ef s9 ≤ a)) (wor Wr) j) → ∀ (H : Heap) (locs : List Loc) (ls : Array Slot), va_P g.1 vwCl [(oX1 v0 v1 v2 v3 (nI v) dg), (aI g v1 3 wo), (aI g v2 3 he_), (aI g v3 3 pf)] H → va_D A [(oX1 v0 v1 v2 v3 (nI v) dg), (aI g v1 3 wo), (aI g v2 3 he_), (aI g v3 3 pf)] → va_S A s.heap H locs → lv_has ls 4 [(0, .ref v0), (1, .int (nI a)), (2, .int (nI mx)), (3, .int (nI j))] → W p l e (he_room 2 37 0 0) s m args below meth c H locs 0 0 Q (F0 m 4 ls []) := by
    intro n9
    induction n9 with
    | zero => intro j mx hm9; exact absurd hm9 (Nat.not_lt_zero _)
    | succ n9 ih4 =>
      intro j mx hm9 hj hj2 hmx H locs ls hP hD hS hl
      refine lv_iload_n hx hb dX1_leastFelled_4 rfl (lv_at hl 3 rfl) ?_
      refine lv_aload_n hx hb dX1_leastFelled_5 rfl (lv_at hl 0 rfl) ?_
      refine he_ci (wc := [(oX1 v0 v1 v2 v3 (nI v) dg), (aI g v1 3 wo), (aI g v2 3 he_), (aI g v3 3 pf)]) (wr := []) (va_runV (As := []) (rest := [.int (nI j)]) ⟨hx, hb, hml, hown, hts⟩ (g_X1_all l g v0 v1 v2 v3 v dg wo he_ pf (by first | assumption | decide | omega) H.size) (cwV 0 hts gX1_leastFelled_X1_all rfl rfl rfl (by decide +kernel) ⟨Nat.le_of_ble_eq_true rfl, Nat.le_of_ble_eq_true rfl⟩) (he_preV (wc := [(oX1 v0 v1 v2 v3 (nI v) dg), (aI g v1 3 wo), (aI g v2 3 he_), (aI g v3 3 pf)]) hK hP hD hS hA hE [0, 1, 2, 3] rfl rfl 0 rfl rfl) rfl rfl hl.1 rfl (lv_room (Nat.le_of_ble_eq_true rfl)) dX1_leastFelled_6 ⟨(Nat.le_of_ble_eq_true rfl), (Nat.le_of_ble_eq_true rfl)⟩) hP hD hS hA [0, 1, 2, 3] [] rfl rfl rfl (by decide) (fun r_1 u_2 H locs h_3 hP hD hS => ?_)
      subst h_3
      have hP : va_P g.1 vwCl [(oX1 v0 v1 v2 v3 (nI v) dg), (aI g v1 3 wo), (aI g v2 3 he_), (aI g v3 3 pf)] H := hP
      have hD : va_D A [(oX1 v0 v1 v2 v3 (nI v) dg), (aI g v1 3 wo), (aI g v2 3 he_), (aI g v3 3 pf)] := hD
      refine lv_icmp_gt (tgt := 37) hx hb dX1_leastFelled_9 (by decide) (fun c_4 => ?_) (fun c_4 => ?_)
      · have k_5 : allN v < j := (he_clt (a := allN v) (b := j) rfl rfl (by omega) (by omega)).mp c_4
        refine lv_aload_n hx hb dX1_leastFelled_37 rfl (lv_at hl 0 rfl) ?_
        refine lv_aload_n hx hb dX1_leastFelled_38 rfl (lv_at hl 0 rfl) ?_
        refine he_ci (wc := [(oX1 v0 v1 v2 v3 (nI v) dg), (aI g v1 3 wo), (aI g v2 3 he_), (aI g v3 3 pf)]) (wr := []) (va_runV (As := []) (rest := [.ref v0]) ⟨hx, hb, hml, hown, hts⟩ (g_X1_all l g v0 v1 v2 v3 v dg wo he_ pf (by first | assumption | decide | omega) H.size) (cwV 0 hts gX1_leastFelled_X1_all rfl rfl rfl (by decide +kernel) ⟨Nat.le_of_ble_eq_true rfl, Nat.le_of_ble_eq_true rfl⟩) (he_preV (wc := [(oX1 v0 v1 v2 v3 (nI v) dg), (aI g v1 3 wo), (aI g v2 3 he_), (aI g v3 3 pf)]) hK hP hD hS hA hE [0, 1, 2, 3] rfl rfl 0 rfl rfl) rfl rfl hl.1 rfl (lv_room (Nat.le_of_ble_eq_true rfl)) dX1_leastFelled_39 ⟨(Nat.le_of_ble_eq_true rfl), (Nat.le_of_ble_eq_true rfl)⟩) hP hD hS hA [0, 1, 2, 3] [] rfl rfl rfl (by decide) (fun r_6 u_7 H locs h_8 hP hD hS => ?_)
        subst h_8
        have hP : va_P g.1 vwCl [(oX1 v0 v1 v2 v3 (nI v) dg), (aI g v1 3 wo), (aI g v2 3 he_), (aI g v3 3 pf)] H := hP
        have hD : va_D A [(oX1 v0 v1 v2 v3 (nI v) dg), (aI g v1 3 wo), (aI g v2 3 he_), (aI g v3 3 pf)] := hD
        refine he_ci (wc := [(oX1 v0 v1 v2 v3 (nI v) dg), (aI g v1 3 wo), (aI g v2 3 he_), (aI g v3 3 pf)]) (wr := []) (va_runV (As := [.int (nI (allN v))]) (rest := []) ⟨hx, hb, hml, hown, hts⟩ (s_X1_worthOf l g v0 v1 v2 v3 v dg wo he_ pf Wr (allN v) (by omega) (fun k9 h9 h8 => (hWH k9 h9 h8).1) H.size) (cwV 1 hts gX1_leastFelled_X1_worthOf rfl rfl rfl (by decide +kernel) ⟨Nat.le_of_ble_eq_true rfl, Nat.le_of_ble_eq_true rfl⟩) (he_preV (wc := [(oX1 v0 v1 v2 v3 (nI v) dg), (aI g v1 3 wo), (aI g v2 3 he_), (aI g v3 3 pf)]) hK hP hD hS hA hE [0, 1, 2, 3] rfl rfl 0 rfl rfl) rfl rfl hl.1 rfl (lv_room (Nat.le_of_ble_eq_true rfl)) dX1_leastFelled_42 ⟨(Nat.le_of_ble_eq_true rfl), (Nat.le_of_ble_eq_true rfl)⟩) hP hD hS hA [0, 1, 2, 3] [] rfl rfl rfl (by decide) (fun r_9 u_10 H locs h_11 hP hD hS => ?_)
        subst h_11
        have hP : va_P g.1 vwCl [(oX1 v0 v1 v2 v3 (nI v) dg), (aI g v1 3 wo), (aI g v2 3 he_), (aI g v3 3 pf)] H := hP
        have hD : va_D A [(oX1 v0 v1 v2 v3 (nI v) dg), (aI g v1 3 wo), (aI g v2 3 he_), (aI g v3 3 pf)] := hD
        refine lv_iload_n hx hb dX1_leastFelled_45 rfl (lv_at hl 2 rfl) ?_
        refine lv_isub hx hb dX1_leastFelled_46 ?_
        refine he_top (nI (wor Wr (allN v) - mx)) (pk_sub (by rw [hmx]; exact mx_le j (fun n9 _ h9 => wor_sub (Bool.and_eq_true _ _ ▸ h9).1))) ?_
        exact he_ri hQ hx hb hr hlk hP hD hS dX1_leastFelled_47 (Nat.le_of_ble_eq_true rfl) (Nat.le_of_ble_eq_true rfl) (()) (rfl) ((congrArg nI (by show wor Wr (allN v) - mx = wor Wr (allN v) - mxF (fun s9 => subB s9 (allN v) && decide (hol Wr ef s9 ≤ a)) (wor Wr) 8; rw [hmx, show j = allN v + 1 by omega]; have h9 := mxF_ext (P := (fun s9 => subB s9 (allN v) && decide (hol Wr ef s9 ≤ a))) (v := wor Wr) (n := allN v + 1) (8 - (allN v + 1)) (fun i h1 h2 => fun h3 => by have h4 := sub_beh v hv3 i (by omega) (by omega); rw [h4] at h3; exact absurd h3 (by simp)); rw [show allN v + 1 + (8 - (allN v + 1)) = 8 by omega] at h9; rw [h9])))
      · have k_12 : ¬ (allN v < j) := fun h9 => c_4 ((he_clt (a := allN v) (b := j) rfl rfl (by omega) (by omega)).mpr h9)
        have hsb : subB j (allN v) = true := sub_all v hv3 j (by omega)
        refine lv_aload_n hx hb dX1_leastFelled_12 rfl (lv_at hl 0 rfl) ?_
        refine lv_iload_n hx hb dX1_leastFelled_13 rfl (lv_at hl 3 rfl) ?_
        refine he_ci (wc := [(oX1 v0 v1 v2 v3 (nI v) dg), (aI g v1 3 wo), (aI g v2 3 he_), (aI g v3 3 pf)]) (wr := []) (va_runV (As := [.int (nI j)]) (rest := []) ⟨hx, hb, hml, hown, hts⟩ (s_X1_menToHold l g v0 v1 v2 v3 v dg wo he_ pf Wr ef j (by omega) (fun k9 h9 h8 => (hWH k9 h9 (sub_k hsb h9 h8)).2) (by first | assumption | decide | omega) (by first | assumption | decide | omega) (by first | assumption | decide | omega) H.size) (cwV 1 hts gX1_leastFelled_X1_menToHold rfl rfl rfl (by decide +kernel) ⟨Nat.le_of_ble_eq_true rfl, Nat.le_of_ble_eq_true rfl⟩) (he_preV (wc := [(oX1 v0 v1 v2 v3 (nI v) dg), (aI g v1 3 wo), (aI g v2 3 he_), (aI g v3 3 pf)]) hK hP hD hS hA hE [0, 1, 2, 3] rfl rfl 0 rfl rfl) rfl rfl hl.1 rfl (lv_room (Nat.le_of_ble_eq_true rfl)) dX1_leastFelled_14 ⟨(Nat.le_of_ble_eq_true rfl), (Nat.le_of_ble_eq_true rfl)⟩) hP hD hS hA [0, 1, 2, 3] [] rfl rfl rfl (by decide) (fun r_13 u_14 H locs h_15 hP hD hS => ?_)
        subst h_15
        have hP : va_P g.1 vwCl [(oX1 v0 v1 v2 v3 (nI v) dg), (aI g v1 3 wo), (aI g v2 3 he_), (aI g v3 3 pf)] H := hP
        have hD : va_D A [(oX1 v0 v1 v2 v3 (nI v) dg), (aI g v1 3 wo), (aI g v2 3 he_), (aI g v3 3 pf)] := hD
        refine lv_iload_n hx hb dX1_leastFelled_17 rfl (lv_at hl 1 rfl) ?_
        have hn9 := hol_le (Wr := Wr) (s := j) hef
        refine lv_icmp_gt (tgt := 31) hx hb dX1_leastFelled_18 (by decide) (fun c_16 => ?_) (fun c_16 => ?_)
        · have k_17 : a < hol Wr ef j := (he_clt (a := a) (b := hol Wr ef j) rfl rfl (by omega) (by omega)).mp c_16
          refine lv_iinc (v := nI (j + 1)) (lv' := [(3, .int (nI (j + 1))), (0, .ref v0), (1, .int (nI a)), (2, .int (nI mx))]) hx hb dX1_leastFelled_31 hl (k := 3) rfl (nI_1 j) (by decide) rfl (fun ls hl => ?_)
          refine lv_goto (tgt := 4) hx hb dX1_leastFelled_34 (by decide) ?_
          exact ih4 (j + 1) mx (by omega) (by omega) (by omega) (mxF_n (P := (fun s9 => subB s9 (allN v) && decide (hol Wr ef s9 ≤ a))) hmx (pS_n2 (by omega))) _ _ _ hP hD hS (lv_sub hl [1, 2, 3, 0] rfl)
        · have k_18 : ¬ (a < hol Wr ef j) := fun h9 => c_16 ((he_clt (a := a) (b := hol Wr ef j) rfl rfl (by omega) (by omega)).mpr h9)
          refine lv_iload_n hx hb dX1_leastFelled_21 rfl (lv_at hl 2 rfl) ?_
          refine lv_aload_n hx hb dX1_leastFelled_22 rfl (lv_at hl 0 rfl) ?_
          refine lv_iload_n hx hb dX1_leastFelled_23 rfl (lv_at hl 3 rfl) ?_
          refine he_ci (wc := [(oX1 v0 v1 v2 v3 (nI v) dg), (aI g v1 3 wo), (aI g v2 3 he_), (aI g v3 3 pf)]) (wr := []) (va_runV (As := [.int (nI j)]) (rest := [.int (nI mx)]) ⟨hx, hb, hml, hown, hts⟩ (s_X1_worthOf l g v0 v1 v2 v3 v dg wo he_ pf Wr j (by omega) (fun k9 h9 h8 => (hWH k9 h9 (sub_k hsb h9 h8)).1) H.size) (cwV 1 hts gX1_leastFelled_X1_worthOf rfl rfl rfl (by decide +kernel) ⟨Nat.le_of_ble_eq_true rfl, Nat.le_of_ble_eq_true rfl⟩) (he_preV (wc := [(oX1 v0 v1 v2 v3 (nI v) dg), (aI g v1 3 wo), (aI g v2 3 he_), (aI g v3 3 pf)]) hK hP hD hS hA hE [0, 1, 2, 3] rfl rfl 0 rfl rfl) rfl rfl hl.1 rfl (lv_room (Nat.le_of_ble_eq_true rfl)) dX1_leastFelled_24 ⟨(Nat.le_of_ble_eq_true rfl), (Nat.le_of_ble_eq_true rfl)⟩) hP hD hS hA [0, 1, 2, 3] [] rfl rfl rfl (by decide) (fun r_19 u_20 H locs h_21 hP hD hS => ?_)
          subst h_21
          have hP : va_P g.1 vwCl [(oX1 v0 v1 v2 v3 (nI v) dg), (aI g v1 3 wo), (aI g v2 3 he_), (aI g v3 3 pf)] H := hP
          have hD : va_D A [(oX1 v0 v1 v2 v3 (nI v) dg), (aI g v1 3 wo), (aI g v2 3 he_), (aI g v3 3 pf)] := hD
          refine va_mmax hx hb (by rw [hml]; exact hl.1.symm) hown ml51 msmax mi mcmax (by decide) (Nat.le_of_ble_eq_true rfl) (Nat.le_of_ble_eq_true rfl) (Nat.le_of_ble_eq_true rfl) dX1_leastFelled_27 ?_
          refine he_top (nI (if mx < wor Wr j then wor Wr j else mx)) (mx_if (by rw [hmx]; have := mx_le (P := (fun s9 => subB s9 (allN v) && decide (hol Wr ef s9 ≤ a))) (v := wor Wr) (B := 297) j (fun n9 _ _ => wor_le hW9 n9); omega) (by have := wor_le hW9 j; omega)) ?_
          refine lv_istore_n (lv' := [(2, .int (nI (if mx < wor Wr j then wor Wr j else mx))), (0, .ref v0), (1, .int (nI a)), (3, .int (nI j))]) hx hb dX1_leastFelled_30 rfl hl (by decide) rfl (fun ls hl => ?_)
          refine lv_iinc (v := nI (j + 1)) (lv' := [(3, .int (nI (j + 1))), (2, .int (nI (if mx < wor Wr j then wor Wr j else mx))), (0, .ref v0), (1, .int (nI a))]) hx hb dX1_leastFelled_31 hl (k := 3) rfl (nI_1 j) (by decide) rfl (fun ls hl => ?_)
          refine lv_goto (tgt := 4) hx hb dX1_leastFelled_34 (by decide) ?_
          exact ih4 (j + 1) (if mx < wor Wr j then wor Wr j else mx) (by omega) (by omega) (by omega) (mxF_y (P := (fun s9 => subB s9 (allN v) && decide (hol Wr ef s9 ≤ a))) hmx (pS_y hsb (by omega))) _ _ _ hP hD hS (lv_sub hl [2, 3, 1, 0] rfl)
  exact loop4 ((8 - 0) + 1) 0 0 (Nat.lt_succ_self _) (Nat.zero_le _) (Nat.zero_le _) rfl _ _ _ hP hD hS (lv_sub hl [2, 3, 1, 0] rfl)
set_option maxHeartbeats 4000000 in
set_option maxRecDepth 100000 in
theorem s_X1_place (l : Launch) (g : he_G) (v0 : Nat) (v1 : Nat) (v2 : Nat) (v3 : Nat) (v : Nat) (dg : Int32) (wo : Nat → Int32) (he_ : Nat → Int32) (pf : Nat → Int32) (ef : Nat → Nat) (an : Nat) (x : Nat) (y : Nat) (z : Nat) (ha8 : an < 8) (he0 : ef 0 = x) (he1 : ef 1 = y) (he2 : ef 2 = z) (hef : ∀ k, ef k ≤ 6) : he_I l yX1_place wsX1_place 0 0 0 0 g [.ref v0, .int (nI an), .int (nI x), .int (nI y), .int (nI z)] [(oX1 v0 v1 v2 v3 (nI v) dg), (aI g v1 3 wo), (aI g v2 3 he_), (aI g v3 3 pf)] (fun (r : Int32) (u : Nat → Int32) => r = plI an ef ∧ (∀ k, k < 3 → u k = nI (ef k))) (fun (u : Nat → Int32) => [(oX1 v0 v1 v2 v3 (nI v) dg), (aI g v1 3 wo), (aI g v2 3 he_), (aI g v3 3 u)]) := by
  refine he_begin (l := l) (g := g) (y := yX1_place) (wl := wsX1_place) (fr := 0) (lo := 0) (mc := 0) (ms := 0) (av := [.ref v0, .int (nI an), .int (nI x), .int (nI y), .int (nI z)]) (ws := [(oX1 v0 v1 v2 v3 (nI v) dg), (aI g v1 3 wo), (aI g v2 3 he_), (aI g v3 3 pf)]) (cc := cX1_place) (maxL := 6) (ret := (some .boolean)) (fun A => va_Qi (fun (r : Int32) (u : Nat → Int32) => r = plI an ef ∧ (∀ k, k < 3 → u k = nI (ef k))) (fun u t => he_post g A ((fun (u : Nat → Int32) => [(oX1 v0 v1 v2 v3 (nI v) dg), (aI g v1 3 wo), (aI g v2 3 he_), (aI g v3 3 u)]) u) t) A) (by decide) rfl (Nat.le_of_ble_eq_true rfl) ?_
  intro p e s m args below meth c A ls H locs Q hQ hB
  obtain ⟨hx, hb, hr, hml, hown, hts, hlk, hin, hP, hK, hD, hS, hA, hE, hl⟩ := hB
  have hl : lv_has ls 6 [(0, .ref v0), (1, .int (nI an)), (2, .int (nI x)), (3, .int (nI y)), (4, .int (nI z))] := hl
  have f18 := hts (.fieldLink RX1 18 "HiredEnemy$Battle" "put" "[I") (iwoX1_place (k := 0) rfl)
  have inX1 : ∀ w ∈ wsX10, w ∈ wsX1_place := innX1_place_X1
  refine lv_aload_n hx hb dX1_place_0 rfl (lv_at hl 0 rfl) ?_
  refine va_get (v := .ref v3) (T := TX1) (N := 5) hx hb hts inX1 hown hK hP 0 rfl rfl 2 (by decide) f18 (fun _ h9 => h9) rfl dX1_place_1 ?_
  refine lv_iconst (v := 0) hx hb dX1_place_4 (by decide) ?_
  refine lv_iload_n hx hb dX1_place_5 rfl (lv_at hl 2 rfl) ?_
  refine he_iast hx hb hK hP hD hS 3 rfl (0) (by decide) (by decide) (by first | decide | assumption) dX1_place_6 (fun H locs hP hD hS => ?_)
  have hP : va_P g.1 vwCl [(oX1 v0 v1 v2 v3 (nI v) dg), (aI g v1 3 wo), (aI g v2 3 he_), (aI g v3 3 (upd pf 0 (nI x)))] H := hP
  have hD : va_D A [(oX1 v0 v1 v2 v3 (nI v) dg), (aI g v1 3 wo), (aI g v2 3 he_), (aI g v3 3 (upd pf 0 (nI x)))] := hD
  refine lv_aload_n hx hb dX1_place_7 rfl (lv_at hl 0 rfl) ?_
  refine va_get (v := .ref v3) (T := TX1) (N := 5) hx hb hts inX1 hown hK hP 0 rfl rfl 2 (by decide) f18 (fun _ h9 => h9) rfl dX1_place_8 ?_
  refine lv_iconst (v := 1) hx hb dX1_place_11 (by decide) ?_
  refine lv_iload_n hx hb dX1_place_12 rfl (lv_at hl 3 rfl) ?_
  refine he_iast hx hb hK hP hD hS 3 rfl (1) (by decide) (by decide) (by first | decide | assumption) dX1_place_13 (fun H locs hP hD hS => ?_)
  have hP : va_P g.1 vwCl [(oX1 v0 v1 v2 v3 (nI v) dg), (aI g v1 3 wo), (aI g v2 3 he_), (aI g v3 3 (upd (upd pf 0 (nI x)) 1 (nI y)))] H := hP
  have hD : va_D A [(oX1 v0 v1 v2 v3 (nI v) dg), (aI g v1 3 wo), (aI g v2 3 he_), (aI g v3 3 (upd (upd pf 0 (nI x)) 1 (nI y)))] := hD
  refine lv_aload_n hx hb dX1_place_14 rfl (lv_at hl 0 rfl) ?_
  refine va_get (v := .ref v3) (T := TX1) (N := 5) hx hb hts inX1 hown hK hP 0 rfl rfl 2 (by decide) f18 (fun _ h9 => h9) rfl dX1_place_15 ?_
  refine lv_iconst (v := 2) hx hb dX1_place_18 (by decide) ?_
  refine lv_iload hx hb dX1_place_19 (lv_at hl 4 rfl) ?_
  refine he_iast hx hb hK hP hD hS 3 rfl (2) (by decide) (by decide) (by first | decide | assumption) dX1_place_21 (fun H locs hP hD hS => ?_)
  have hP : va_P g.1 vwCl [(oX1 v0 v1 v2 v3 (nI v) dg), (aI g v1 3 wo), (aI g v2 3 he_), (aI g v3 3 (upd (upd (upd pf 0 (nI x)) 1 (nI y)) 2 (nI z)))] H := hP
  have hD : va_D A [(oX1 v0 v1 v2 v3 (nI v) dg), (aI g v1 3 wo), (aI g v2 3 he_), (aI g v3 3 (upd (upd (upd pf 0 (nI x)) 1 (nI y)) 2 (nI z)))] := hD
  have hP : va_P g.1 vwCl [(oX1 v0 v1 v2 v3 (nI v) dg), (aI g v1 3 wo), (aI g v2 3 he_), (aI g v3 3 (pt3 pf x y z))] H := hP
  have hD : va_D A [(oX1 v0 v1 v2 v3 (nI v) dg), (aI g v1 3 wo), (aI g v2 3 he_), (aI g v3 3 (pt3 pf x y z))] := hD
  refine lv_iconst (v := 0) hx hb dX1_place_22 (by decide) ?_
  refine lv_istore (lv' := [(5, .int 0), (0, .ref v0), (1, .int (nI an)), (2, .int (nI x)), (3, .int (nI y)), (4, .int (nI z))]) hx hb dX1_place_23 hl (by decide) rfl (fun ls hl => ?_)
  have loop25 : ∀ (n9 : Nat) (j : Nat), 3 - j < n9 → (j ≤ 3) → (∀ k, k < j → bt an k = true ∨ ef k = 0) → ∀ (H : Heap) (locs : List Loc) (ls : Array Slot), va_P g.1 vwCl [(oX1 v0 v1 v2 v3 (nI v) dg), (aI g v1 3 wo), (aI g v2 3 he_), (aI g v3 3 (pt3 pf x y z))] H → va_D A [(oX1 v0 v1 v2 v3 (nI v) dg), (aI g v1 3 wo), (aI g v2 3 he_), (aI g v3 3 (pt3 pf x y z))] → va_S A s.heap H locs → lv_has ls 6 [(0, .ref v0), (1, .int (nI an)), (5, .int (nI j))] → W p l e (he_room 0 0 0 0) s m args below meth c H locs 0 0 Q (F0 m 25 ls []) := by
    intro n9
    induction n9 with
    | zero => intro j hm9; exact absurd hm9 (Nat.not_lt_zero _)
    | succ n9 ih25 =>
      intro j hm9 hj hpl H locs ls hP hD hS hl
      refine lv_iload hx hb dX1_place_25 (lv_at hl 2 rfl) ?_
      refine lv_iconst (v := 3) hx hb dX1_place_27 (by decide) ?_
      refine lv_icmp_ge (tgt := 58) hx hb dX1_place_28 (by decide) (fun c_1 => ?_) (fun c_1 => ?_)
      · have k_2 : 3 ≤ j := (he_cle (a := 3) (b := j) (by decide) rfl (by omega) (by omega)).mp c_1
        refine lv_iconst (v := 1) hx hb dX1_place_58 (by decide) ?_
        exact he_rz hQ hx hb hr hlk hP hD hS dX1_place_59 (Nat.le_of_ble_eq_true rfl) (Nat.le_of_ble_eq_true rfl) rfl (pt3 pf x y z) (rfl) (⟨(pl_t (fun k9 h9 => hpl k9 (by omega))).symm, fun k9 h9 => pt3_e he0 he1 he2 k9 h9⟩)
      · have k_3 : ¬ (3 ≤ j) := fun h9 => c_1 ((he_cle (a := 3) (b := j) (by decide) rfl (by omega) (by omega)).mpr h9)
        refine lv_aload_n hx hb dX1_place_31 rfl (lv_at hl 0 rfl) ?_
        refine va_get (v := .ref v3) (T := TX1) (N := 5) hx hb hts inX1 hown hK hP 0 rfl rfl 2 (by decide) f18 (fun _ h9 => h9) rfl dX1_place_32 ?_
        refine lv_iload hx hb dX1_place_35 (lv_at hl 2 rfl) ?_
        refine he_iald hx hb hK hP 3 rfl (j) rfl (by first | assumption | decide | omega) (by first | decide | assumption) (nI (ef j)) (pt3_e he0 he1 he2 j (by omega)) dX1_place_37 ?_
        have he9 := hef j
        refine lv_if_le (tgt := 52) hx hb dX1_place_38 (by decide) (fun c_4 => ?_) (fun c_4 => ?_)
        · have k_5 : ef j ≤ 0 := (he_cle (a := ef j) (b := 0) rfl (by decide) (by omega) (by omega)).mp c_4
          refine lv_iinc (v := nI (j + 1)) (lv' := [(5, .int (nI (j + 1))), (0, .ref v0), (1, .int (nI an))]) hx hb dX1_place_52 hl (k := 2) rfl (nI_1 j) (by decide) rfl (fun ls hl => ?_)
          refine lv_goto (tgt := 25) hx hb dX1_place_55 (by decide) ?_
          exact ih25 (j + 1) (by omega) (by omega) (pl_s hpl (Or.inr (by omega))) _ _ _ hP hD hS (lv_sub hl [1, 2, 0] rfl)
        · have k_6 : ¬ (ef j ≤ 0) := fun h9 => c_4 ((he_cle (a := ef j) (b := 0) rfl (by decide) (by omega) (by omega)).mpr h9)
          refine lv_iload_n hx hb dX1_place_41 rfl (lv_at hl 1 rfl) ?_
          refine lv_iload hx hb dX1_place_42 (lv_at hl 2 rfl) ?_
          refine lv_ishr hx hb dX1_place_44 ?_
          refine lv_iconst (v := 1) hx hb dX1_place_45 (by decide) ?_
          refine lv_iand hx hb dX1_place_46 ?_
          refine he_top (bI an j) (bI_e an ha8 j (by omega)) ?_
          refine lv_if_ne (tgt := 52) hx hb dX1_place_47 (by decide) (fun c_7 => ?_) (fun c_7 => ?_)
          · have hbt : bt an j = true := bI_n0 c_7
            refine lv_iinc (v := nI (j + 1)) (lv' := [(5, .int (nI (j + 1))), (0, .ref v0), (1, .int (nI an))]) hx hb dX1_place_52 hl (k := 2) rfl (nI_1 j) (by decide) rfl (fun ls hl => ?_)
            refine lv_goto (tgt := 25) hx hb dX1_place_55 (by decide) ?_
            exact ih25 (j + 1) (by omega) (by omega) (pl_s hpl (Or.inl hbt)) _ _ _ hP hD hS (lv_sub hl [1, 2, 0] rfl)
          · have hbt : ¬ bt an j = true := bI_0 c_7
            refine lv_iconst (v := 0) hx hb dX1_place_50 (by decide) ?_
            exact he_rz hQ hx hb hr hlk hP hD hS dX1_place_51 (Nat.le_of_ble_eq_true rfl) (Nat.le_of_ble_eq_true rfl) rfl (pt3 pf x y z) (rfl) (⟨(pl_f (k := j) (by omega) hbt (by omega)).symm, fun k9 h9 => pt3_e he0 he1 he2 k9 h9⟩)
  exact loop25 ((3 - 0) + 1) 0 (Nat.lt_succ_self _) (Nat.zero_le _) (fun k9 h9 => absurd h9 (Nat.not_lt_zero k9)) _ _ _ hP hD hS (lv_sub hl [1, 2, 0] rfl)
set_option maxHeartbeats 4000000 in
set_option maxRecDepth 100000 in
theorem s_X1_digits (l : Launch) (g : he_G) (v0 : Nat) (v1 : Nat) (v2 : Nat) (v3 : Nat) (v : Nat) (dg : Int32) (wo : Nat → Int32) (he_ : Nat → Int32) (pf : Nat → Int32) (ef : Nat → Nat) (hv3 : v ≤ 3) (hPf : ∀ k, k < 3 → pf k = nI (ef k)) : he_I l yX1_digits wsX1_digits 0 0 0 0 g [.ref v0] [(oX1 v0 v1 v2 v3 (nI v) dg), (aI g v1 3 wo), (aI g v2 3 he_), (aI g v3 3 pf)] (fun (r : Int32) (u : Unit) => r = nI (dsN ef v)) (fun (u : Unit) => [(oX1 v0 v1 v2 v3 (nI v) dg), (aI g v1 3 wo), (aI g v2 3 he_), (aI g v3 3 pf)]) := by
  refine he_begin (l := l) (g := g) (y := yX1_digits) (wl := wsX1_digits) (fr := 0) (lo := 0) (mc := 0) (ms := 0) (av := [.ref v0]) (ws := [(oX1 v0 v1 v2 v3 (nI v) dg), (aI g v1 3 wo), (aI g v2 3 he_), (aI g v3 3 pf)]) (cc := cX1_digits) (maxL := 3) (ret := (some .int)) (fun A => va_Qi (fun (r : Int32) (u : Unit) => r = nI (dsN ef v)) (fun u t => he_post g A ((fun (u : Unit) => [(oX1 v0 v1 v2 v3 (nI v) dg), (aI g v1 3 wo), (aI g v2 3 he_), (aI g v3 3 pf)]) u) t) A) (by decide) rfl (Nat.le_of_ble_eq_true rfl) ?_
  intro p e s m args below meth c A ls H locs Q hQ hB
  obtain ⟨hx, hb, hr, hml, hown, hts, hlk, hin, hP, hK, hD, hS, hA, hE, hl⟩ := hB
  have hl : lv_has ls 3 [(0, .ref v0)] := hl
  have f33 := hts (.fieldLink RX1 33 "HiredEnemy$Battle" "walls" "I") (iwoX1_digits (k := 0) rfl)
  have inX1 : ∀ w ∈ wsX10, w ∈ wsX1_digits := innX1_digits_X1
  have f18 := hts (.fieldLink RX1 18 "HiredEnemy$Battle" "put" "[I") (iwoX1_digits (k := 1) rfl)
  refine lv_iconst (v := 0) hx hb dX1_digits_0 (by decide) ?_
  refine lv_istore_n (lv' := [(1, .int 0), (0, .ref v0)]) hx hb dX1_digits_1 rfl hl (by decide) rfl (fun ls hl => ?_)
  refine lv_iconst (v := 0) hx hb dX1_digits_2 (by decide) ?_
  refine lv_istore_n (lv' := [(2, .int 0), (1, .int 0), (0, .ref v0)]) hx hb dX1_digits_3 rfl hl (by decide) rfl (fun ls hl => ?_)
  have loop4 : ∀ (n9 : Nat) (j : Nat) (ac : Nat), v - j < n9 → (j ≤ v) → (ac = dsN ef j) → ∀ (H : Heap) (locs : List Loc) (ls : Array Slot), va_P g.1 vwCl [(oX1 v0 v1 v2 v3 (nI v) dg), (aI g v1 3 wo), (aI g v2 3 he_), (aI g v3 3 pf)] H → va_D A [(oX1 v0 v1 v2 v3 (nI v) dg), (aI g v1 3 wo), (aI g v2 3 he_), (aI g v3 3 pf)] → va_S A s.heap H locs → lv_has ls 3 [(0, .ref v0), (1, .int (nI ac)), (2, .int (nI j))] → W p l e (he_room 0 0 0 0) s m args below meth c H locs 0 0 Q (F0 m 4 ls []) := by
    intro n9
    induction n9 with
    | zero => intro j ac hm9; exact absurd hm9 (Nat.not_lt_zero _)
    | succ n9 ih4 =>
      intro j ac hm9 hj hac H locs ls hP hD hS hl
      refine lv_iload_n hx hb dX1_digits_4 rfl (lv_at hl 2 rfl) ?_
      refine lv_aload_n hx hb dX1_digits_5 rfl (lv_at hl 0 rfl) ?_
      refine va_get (v := .int (nI v)) (T := TX1) (N := 5) hx hb hts inX1 hown hK hP 0 rfl rfl 3 (by decide) f33 (fun _ h9 => h9) rfl dX1_digits_6 ?_
      refine lv_icmp_ge (tgt := 30) hx hb dX1_digits_9 (by decide) (fun c_1 => ?_) (fun c_1 => ?_)
      · have k_2 : v ≤ j := (he_cle (a := v) (b := j) rfl rfl (by omega) (by omega)).mp c_1
        refine lv_iload_n hx hb dX1_digits_30 rfl (lv_at hl 1 rfl) ?_
        exact he_ri hQ hx hb hr hlk hP hD hS dX1_digits_31 (Nat.le_of_ble_eq_true rfl) (Nat.le_of_ble_eq_true rfl) (()) (rfl) ((congrArg nI (by rw [hac, show j = v by omega])))
      · have k_3 : ¬ (v ≤ j) := fun h9 => c_1 ((he_cle (a := v) (b := j) rfl rfl (by omega) (by omega)).mpr h9)
        refine lv_iload_n hx hb dX1_digits_12 rfl (lv_at hl 1 rfl) ?_
        refine lv_bipush (v := 10) hx hb dX1_digits_13 (by decide) ?_
        refine lv_imul hx hb dX1_digits_15 ?_
        refine he_top (nI (ac * 10)) (pk_mul ac 10) ?_
        refine lv_aload_n hx hb dX1_digits_16 rfl (lv_at hl 0 rfl) ?_
        refine va_get (v := .ref v3) (T := TX1) (N := 5) hx hb hts inX1 hown hK hP 0 rfl rfl 2 (by decide) f18 (fun _ h9 => h9) rfl dX1_digits_17 ?_
        refine lv_iload_n hx hb dX1_digits_20 rfl (lv_at hl 2 rfl) ?_
        refine he_iald hx hb hK hP 3 rfl (j) rfl (by first | assumption | decide | omega) (by first | decide | assumption) (nI (ef j)) (hPf j (by omega)) dX1_digits_21 ?_
        refine lv_iadd hx hb dX1_digits_22 ?_
        refine he_top (nI (ac * 10 + ef j)) (nI_add (ac * 10) (ef j)) ?_
        refine lv_istore_n (lv' := [(1, .int (nI (ac * 10 + ef j))), (0, .ref v0), (2, .int (nI j))]) hx hb dX1_digits_23 rfl hl (by decide) rfl (fun ls hl => ?_)
        refine lv_iinc (v := nI (j + 1)) (lv' := [(2, .int (nI (j + 1))), (1, .int (nI (ac * 10 + ef j))), (0, .ref v0)]) hx hb dX1_digits_24 hl (k := 2) rfl (nI_1 j) (by decide) rfl (fun ls hl => ?_)
        refine lv_goto (tgt := 4) hx hb dX1_digits_27 (by decide) ?_
        exact ih4 (j + 1) (ac * 10 + ef j) (by omega) (by omega) (by rw [dsN, hac]) _ _ _ hP hD hS (lv_sub hl [2, 1, 0] rfl)
  exact loop4 ((v - 0) + 1) 0 0 (Nat.lt_succ_self _) (Nat.zero_le _) rfl _ _ _ hP hD hS (lv_sub hl [2, 1, 0] rfl)
set_option maxHeartbeats 4000000 in
set_option maxRecDepth 100000 in
theorem s_X1_safe (l : Launch) (g : he_G) (v0 : Nat) (v1 : Nat) (v2 : Nat) (v3 : Nat) (v : Nat) (dg : Int32) (wo : Nat → Int32) (he_ : Nat → Int32) (pf : Nat → Int32) (Wr : Nat → Nat) (an : Nat) (a : Nat) (d : Nat) (hv3 : v ≤ 3) (ha8 : an < 8) (ha6 : a ≤ 6) (hd6 : d ≤ 6) (hWH : ∀ k, k < 3 → bt an k = true → wo k = nI (Wr k) ∧ he_ k = nI (Wr k / 25)) (hW9 : ∀ k, Wr k ≤ 99) : he_I l yX1_safe wsX1_safe 2 47 0 0 g [.ref v0, .int (nI an), .int (nI a), .int (nI d)] [(oX1 v0 v1 v2 v3 (nI v) dg), (aI g v1 3 wo), (aI g v2 3 he_), (aI g v3 3 pf)] (fun (r : Int32) (u : Int32 × (Nat → Int32)) => r = nI (leN (foC Wr an a d)) ∧ u.1 = nI (dsN (dgt (roN (foC Wr an a d))) v)) (fun (u : Int32 × (Nat → Int32)) => [(oX1 v0 v1 v2 v3 (nI v) u.1), (aI g v1 3 wo), (aI g v2 3 he_), (aI g v3 3 u.2)]) := by
  refine he_begin (l := l) (g := g) (y := yX1_safe) (wl := wsX1_safe) (fr := 2) (lo := 47) (mc := 0) (ms := 0) (av := [.ref v0, .int (nI an), .int (nI a), .int (nI d)]) (ws := [(oX1 v0 v1 v2 v3 (nI v) dg), (aI g v1 3 wo), (aI g v2 3 he_), (aI g v3 3 pf)]) (cc := cX1_safe) (maxL := 8) (ret := (some .int)) (fun A => va_Qi (fun (r : Int32) (u : Int32 × (Nat → Int32)) => r = nI (leN (foC Wr an a d)) ∧ u.1 = nI (dsN (dgt (roN (foC Wr an a d))) v)) (fun u t => he_post g A ((fun (u : Int32 × (Nat → Int32)) => [(oX1 v0 v1 v2 v3 (nI v) u.1), (aI g v1 3 wo), (aI g v2 3 he_), (aI g v3 3 u.2)]) u) t) A) (by decide) rfl (Nat.le_of_ble_eq_true rfl) ?_
  intro p e s m args below meth c A ls H locs Q hQ hB
  obtain ⟨hx, hb, hr, hml, hown, hts, hlk, hin, hP, hK, hD, hS, hA, hE, hl⟩ := hB
  have hl : lv_has ls 8 [(0, .ref v0), (1, .int (nI an)), (2, .int (nI a)), (3, .int (nI d))] := hl
  have f37 := hts (.fieldLink RX1 37 "HiredEnemy$Battle" "safeDigits" "I") (iwoX1_safe (k := 0) rfl)
  have inX1 : ∀ w ∈ wsX10, w ∈ wsX1_safe := innX1_safe_X1
  have ml51 := hts (.methodLink RX1 51 Lib.Math.max.name) (iwoX1_safe (k := 1) rfl)
  have msmax := hts (.static Lib.Math.max.name) (iwoX1_safe (k := 2) rfl)
  have mi := hts (.initialized "java/lang/Math") (iwoX1_safe (k := 3) rfl)
  have mcmax := hts (.code Lib.Math.max.name Lib.Math.max.code 2 (some .int)) (by decide +kernel)
  refine lv_iconst (v := (-1)) hx hb dX1_safe_0 (by decide) ?_
  refine lv_istore (lv' := [(4, .int (-1)), (0, .ref v0), (1, .int (nI an)), (2, .int (nI a)), (3, .int (nI d))]) hx hb dX1_safe_1 hl (by decide) rfl (fun ls hl => ?_)
  refine lv_aload_n hx hb dX1_safe_3 rfl (lv_at hl 1 rfl) ?_
  refine lv_iconst (v := 0) hx hb dX1_safe_4 (by decide) ?_
  refine va_put (v := .int 0) (ty := .int) (T := TX1) (N := 5) hx hb hts inX1 tyX1 tyX1_ok nmX1 hown hK hP hD hS 0 rfl rfl 4 (by decide) f37 (fun _ h9 => h9) rfl (by decide +kernel) rfl rfl (Nat.le_of_ble_eq_true rfl) dX1_safe_5 (fun H locs hP hD hS => ?_)
  have hP : va_P g.1 vwCl [(oX1 v0 v1 v2 v3 (nI v) 0), (aI g v1 3 wo), (aI g v2 3 he_), (aI g v3 3 pf)] H := hP
  have hD : va_D A [(oX1 v0 v1 v2 v3 (nI v) 0), (aI g v1 3 wo), (aI g v2 3 he_), (aI g v3 3 pf)] := hD
  refine lv_iconst (v := 0) hx hb dX1_safe_8 (by decide) ?_
  refine lv_istore (lv' := [(5, .int 0), (4, .int (-1)), (0, .ref v0), (1, .int (nI an)), (2, .int (nI a)), (3, .int (nI d))]) hx hb dX1_safe_9 hl (by decide) rfl (fun ls hl => ?_)
  have loop11 : ∀ (n9 : Nat) (x : Nat) (le : Int32) (dd : Int32) (pu : Nat → Int32), d + 1 - x < n9 → (x ≤ d + 1) → (le = leI (qF (stF (fun r9 => vS Wr an a (dgt r9))) none d an x 0)) → (dd = nI (dsN (dgt (roN (qF (stF (fun r9 => vS Wr an a (dgt r9))) none d an x 0))) v)) → (boO 297 (qF (stF (fun r9 => vS Wr an a (dgt r9))) none d an x 0)) → ∀ (H : Heap) (locs : List Loc) (ls : Array Slot), va_P g.1 vwCl [(oX1 v0 v1 v2 v3 (nI v) dd), (aI g v1 3 wo), (aI g v2 3 he_), (aI g v3 3 pu)] H → va_D A [(oX1 v0 v1 v2 v3 (nI v) dd), (aI g v1 3 wo), (aI g v2 3 he_), (aI g v3 3 pu)] → va_S A s.heap H locs → lv_has ls 8 [(0, .ref v0), (1, .int (nI an)), (2, .int (nI a)), (3, .int (nI d)), (4, .int le), (5, .int (nI x))] → W p l e (he_room 2 47 0 0) s m args below meth c H locs 0 0 Q (F0 m 11 ls []) := by
    intro n9
    induction n9 with
    | zero => intro x le dd pu hm9; exact absurd hm9 (Nat.not_lt_zero _)
    | succ n9 ih11 =>
      intro x le dd pu hm9 hx6 hle hdd hbo H locs ls hP hD hS hl
      refine lv_iload hx hb dX1_safe_11 (lv_at hl 5 rfl) ?_
      refine lv_iload_n hx hb dX1_safe_13 rfl (lv_at hl 3 rfl) ?_
      refine lv_icmp_gt (tgt := 96) hx hb dX1_safe_14 (by decide) (fun c_1 => ?_) (fun c_1 => ?_)
      · have k_2 : d < x := (he_clt (a := d) (b := x) rfl rfl (by omega) (by omega)).mp c_1
        refine lv_iload hx hb dX1_safe_96 (lv_at hl 4 rfl) ?_
        refine lv_iconst (v := 0) hx hb dX1_safe_98 (by decide) ?_
        refine va_mmax hx hb (by rw [hml]; exact hl.1.symm) hown ml51 msmax mi mcmax (by decide) (Nat.le_of_ble_eq_true rfl) (Nat.le_of_ble_eq_true rfl) (Nat.le_of_ble_eq_true rfl) dX1_safe_99 ?_
        refine he_top (nI (leN (qF (stF (fun r9 => vS Wr an a (dgt r9))) none d an x 0))) (by rw [hle]; exact le_top hbo (by decide)) ?_
        exact he_ri hQ hx hb hr hlk hP hD hS dX1_safe_102 (Nat.le_of_ble_eq_true rfl) (Nat.le_of_ble_eq_true rfl) ((dd, pu)) (rfl) (⟨congrArg nI (by (try dsimp only); rw [show x = d + 1 by (try dsimp only); omega]; rfl), (by try dsimp only; exact hdd.trans (by (try dsimp only); rw [show x = d + 1 by (try dsimp only); omega]; rfl))⟩)
      · have k_3 : ¬ (d < x) := fun h9 => c_1 ((he_clt (a := d) (b := x) rfl rfl (by omega) (by omega)).mpr h9)
        refine lv_iconst (v := 0) hx hb dX1_safe_17 (by decide) ?_
        refine lv_istore (lv' := [(6, .int 0), (0, .ref v0), (1, .int (nI an)), (2, .int (nI a)), (3, .int (nI d)), (4, .int le), (5, .int (nI x))]) hx hb dX1_safe_18 hl (by decide) rfl (fun ls hl => ?_)
        have loop20 : ∀ (n9 : Nat) (y : Nat) (le : Int32) (dd : Int32) (pu : Nat → Int32), d - x + 1 - y < n9 → (y ≤ d - x + 1) → (le = leI (qF (stF (fun r9 => vS Wr an a (dgt r9))) none d an x y)) → (dd = nI (dsN (dgt (roN (qF (stF (fun r9 => vS Wr an a (dgt r9))) none d an x y))) v)) → (boO 297 (qF (stF (fun r9 => vS Wr an a (dgt r9))) none d an x y)) → ∀ (H : Heap) (locs : List Loc) (ls : Array Slot), va_P g.1 vwCl [(oX1 v0 v1 v2 v3 (nI v) dd), (aI g v1 3 wo), (aI g v2 3 he_), (aI g v3 3 pu)] H → va_D A [(oX1 v0 v1 v2 v3 (nI v) dd), (aI g v1 3 wo), (aI g v2 3 he_), (aI g v3 3 pu)] → va_S A s.heap H locs → lv_has ls 8 [(0, .ref v0), (1, .int (nI an)), (2, .int (nI a)), (3, .int (nI d)), (4, .int le), (5, .int (nI x)), (6, .int (nI y))] → W p l e (he_room 2 47 0 0) s m args below meth c H locs 0 0 Q (F0 m 20 ls []) := by
          intro n9
          induction n9 with
          | zero => intro y le dd pu hm9; exact absurd hm9 (Nat.not_lt_zero _)
          | succ n9 ih20 =>
            intro y le dd pu hm9 hy6 hle hdd hbo H locs ls hP hD hS hl
            refine lv_iload hx hb dX1_safe_20 (lv_at hl 6 rfl) ?_
            refine lv_iload_n hx hb dX1_safe_22 rfl (lv_at hl 3 rfl) ?_
            refine lv_iload hx hb dX1_safe_23 (lv_at hl 5 rfl) ?_
            refine lv_isub hx hb dX1_safe_25 ?_
            refine he_top (nI (d - x)) (pk_sub (by omega)) ?_
            refine lv_icmp_gt (tgt := 90) hx hb dX1_safe_26 (by decide) (fun c_4 => ?_) (fun c_4 => ?_)
            · have k_5 : d - x < y := (he_clt (a := d - x) (b := y) rfl rfl (by omega) (by omega)).mp c_4
              refine lv_iinc (v := nI (x + 1)) (lv' := [(5, .int (nI (x + 1))), (0, .ref v0), (1, .int (nI an)), (2, .int (nI a)), (3, .int (nI d)), (4, .int le), (6, .int (nI y))]) hx hb dX1_safe_90 hl (k := 5) rfl (nI_1 x) (by decide) rfl (fun ls hl => ?_)
              refine lv_goto (tgt := 11) hx hb dX1_safe_93 (by decide) ?_
              exact ih11 (x + 1) le dd pu (by omega) (by omega) (hle.trans (by rw [qF_x, show y = d + 1 - x by omega])) (hdd.trans (by rw [qF_x, show y = d + 1 - x by omega])) (by rw [qF_x, ← show y = d + 1 - x by omega]; exact hbo) _ _ _ hP hD hS (lv_sub hl [1, 2, 3, 4, 5, 0] rfl)
            · have k_6 : ¬ (d - x < y) := fun h9 => c_4 ((he_clt (a := d - x) (b := y) rfl rfl (by omega) (by omega)).mpr h9)
              refine lv_aload_n hx hb dX1_safe_29 rfl (lv_at hl 0 rfl) ?_
              refine lv_iload_n hx hb dX1_safe_30 rfl (lv_at hl 1 rfl) ?_
              refine lv_iload hx hb dX1_safe_31 (lv_at hl 5 rfl) ?_
              refine lv_iload hx hb dX1_safe_33 (lv_at hl 6 rfl) ?_
              refine lv_iload_n hx hb dX1_safe_35 rfl (lv_at hl 3 rfl) ?_
              refine lv_iload hx hb dX1_safe_36 (lv_at hl 5 rfl) ?_
              refine lv_isub hx hb dX1_safe_38 ?_
              refine he_top (nI (d - x)) (pk_sub (by omega)) ?_
              refine lv_iload hx hb dX1_safe_39 (lv_at hl 6 rfl) ?_
              refine lv_isub hx hb dX1_safe_41 ?_
              refine he_top (nI (d - x - y)) (pk_sub (by omega)) ?_
              refine he_ci (wc := [(oX1 v0 v1 v2 v3 (nI v) dd), (aI g v1 3 wo), (aI g v2 3 he_), (aI g v3 3 pu)]) (wr := []) (va_runV (As := [.int (nI an), .int (nI x), .int (nI y), .int (nI (d - x - y))]) (rest := []) ⟨hx, hb, hml, hown, hts⟩ (s_X1_place l g v0 v1 v2 v3 v dd wo he_ pu (dgt (49 * x + 7 * y + (d - x - y))) an x y (d - x - y) (by first | assumption | decide | omega) (rw3 hd6 (by omega) (by omega)).1 (rw3 hd6 (by omega) (by omega)).2.1 (rw3 hd6 (by omega) (by omega)).2.2.1 (dgt_le (rw3 hd6 (by omega) (by omega)).2.2.2.1) H.size) (cwV 4 hts gX1_safe_X1_place rfl rfl rfl (by decide +kernel) ⟨Nat.le_of_ble_eq_true rfl, Nat.le_of_ble_eq_true rfl⟩) (he_preV (wc := [(oX1 v0 v1 v2 v3 (nI v) dd), (aI g v1 3 wo), (aI g v2 3 he_), (aI g v3 3 pu)]) hK hP hD hS hA hE [0, 1, 2, 3] rfl rfl 0 rfl rfl) rfl rfl hl.1 rfl (lv_room (Nat.le_of_ble_eq_true rfl)) dX1_safe_42 ⟨(Nat.le_of_ble_eq_true rfl), (Nat.le_of_ble_eq_true rfl)⟩) hP hD hS hA [0, 1, 2, 3] [] rfl rfl rfl (by decide) (fun r_7 u_8 H locs h_9 hP hD hS => ?_)
              obtain ⟨uf_10, rfl⟩ : ∃ z, z = u_8 := ⟨_, rfl⟩
              try dsimp only at h_9
              obtain ⟨rfl, hf_11⟩ := h_9
              have hP : va_P g.1 vwCl [(oX1 v0 v1 v2 v3 (nI v) dd), (aI g v1 3 wo), (aI g v2 3 he_), (aI g v3 3 uf_10)] H := hP
              have hD : va_D A [(oX1 v0 v1 v2 v3 (nI v) dd), (aI g v1 3 wo), (aI g v2 3 he_), (aI g v3 3 uf_10)] := hD
              refine lv_if_ne (tgt := 51) hx hb dX1_safe_45 (by decide) (fun c_12 => ?_) (fun c_12 => ?_)
              · have hpu : puB (49 * x + 7 * y + (d - x - y)) d an = true := pu_y (rw3 hd6 (by omega) (by omega)).2.2.2.2 c_12
                refine lv_aload_n hx hb dX1_safe_51 rfl (lv_at hl 0 rfl) ?_
                refine lv_iload_n hx hb dX1_safe_52 rfl (lv_at hl 1 rfl) ?_
                refine lv_iload_n hx hb dX1_safe_53 rfl (lv_at hl 2 rfl) ?_
                refine he_ci (wc := [(oX1 v0 v1 v2 v3 (nI v) dd), (aI g v1 3 wo), (aI g v2 3 he_), (aI g v3 3 uf_10)]) (wr := []) (va_runV (As := [.int (nI an), .int (nI a)]) (rest := []) ⟨hx, hb, hml, hown, hts⟩ (s_X1_mostFelled l g v0 v1 v2 v3 v dd wo he_ uf_10 Wr (dgt (49 * x + 7 * y + (d - x - y))) an a (by first | assumption | decide | omega) (by first | assumption | decide | omega) (by first | assumption | decide | omega) hf_11 (dgt_le (rw3 hd6 (by omega) (by omega)).2.2.2.1) (by first | assumption | decide | omega) H.size) (cwV 2 hts gX1_safe_X1_mostFelled rfl rfl rfl (by decide +kernel) ⟨Nat.le_of_ble_eq_true rfl, Nat.le_of_ble_eq_true rfl⟩) (he_preV (wc := [(oX1 v0 v1 v2 v3 (nI v) dd), (aI g v1 3 wo), (aI g v2 3 he_), (aI g v3 3 uf_10)]) hK hP hD hS hA hE [0, 1, 2, 3] rfl rfl 0 rfl rfl) rfl rfl hl.1 rfl (lv_room (Nat.le_of_ble_eq_true rfl)) dX1_safe_54 ⟨(Nat.le_of_ble_eq_true rfl), (Nat.le_of_ble_eq_true rfl)⟩) hP hD hS hA [0, 1, 2, 3] [] rfl rfl rfl (by decide) (fun r_13 u_14 H locs h_15 hP hD hS => ?_)
                subst h_15
                have hP : va_P g.1 vwCl [(oX1 v0 v1 v2 v3 (nI v) dd), (aI g v1 3 wo), (aI g v2 3 he_), (aI g v3 3 uf_10)] H := hP
                have hD : va_D A [(oX1 v0 v1 v2 v3 (nI v) dd), (aI g v1 3 wo), (aI g v2 3 he_), (aI g v3 3 uf_10)] := hD
                refine lv_istore (lv' := [(7, .int (nI (vS Wr an a (dgt (49 * x + 7 * y + (d - x - y)))))), (0, .ref v0), (1, .int (nI an)), (2, .int (nI a)), (3, .int (nI d)), (4, .int le), (5, .int (nI x)), (6, .int (nI y))]) hx hb dX1_safe_57 hl (by decide) rfl (fun ls hl => ?_)
                have join72 : ∀ (_ : Unit), ((qF (stF (fun r9 => vS Wr an a (dgt r9))) none d an x (y + 1)) = some (vS Wr an a (dgt (49 * x + 7 * y + (d - x - y))), 49 * x + 7 * y + (d - x - y))) → ∀ (H : Heap) (locs : List Loc) (ls : Array Slot), va_P g.1 vwCl [(oX1 v0 v1 v2 v3 (nI v) dd), (aI g v1 3 wo), (aI g v2 3 he_), (aI g v3 3 uf_10)] H → va_D A [(oX1 v0 v1 v2 v3 (nI v) dd), (aI g v1 3 wo), (aI g v2 3 he_), (aI g v3 3 uf_10)] → va_S A s.heap H locs → lv_has ls 8 [(7, .int (nI (vS Wr an a (dgt (49 * x + 7 * y + (d - x - y)))))), (0, .ref v0), (1, .int (nI an)), (2, .int (nI a)), (3, .int (nI d)), (4, .int le), (5, .int (nI x)), (6, .int (nI y))] → W p l e (he_room 2 47 0 0) s m args below meth c H locs 0 0 Q (F0 m 72 ls []) := by
                  intro _ hup H locs ls hP hD hS hl
                  refine lv_iload hx hb dX1_safe_72 (lv_at hl 0 rfl) ?_
                  refine lv_istore (lv' := [(4, .int (nI (vS Wr an a (dgt (49 * x + 7 * y + (d - x - y)))))), (7, .int (nI (vS Wr an a (dgt (49 * x + 7 * y + (d - x - y)))))), (0, .ref v0), (1, .int (nI an)), (2, .int (nI a)), (3, .int (nI d)), (5, .int (nI x)), (6, .int (nI y))]) hx hb dX1_safe_74 hl (by decide) rfl (fun ls hl => ?_)
                  refine lv_aload_n hx hb dX1_safe_76 rfl (lv_at hl 2 rfl) ?_
                  refine lv_aload_n hx hb dX1_safe_77 rfl (lv_at hl 2 rfl) ?_
                  refine he_ci (wc := [(oX1 v0 v1 v2 v3 (nI v) dd), (aI g v1 3 wo), (aI g v2 3 he_), (aI g v3 3 uf_10)]) (wr := []) (va_runV (As := []) (rest := [.ref v0]) ⟨hx, hb, hml, hown, hts⟩ (s_X1_digits l g v0 v1 v2 v3 v dd wo he_ uf_10 (dgt (49 * x + 7 * y + (d - x - y))) (by first | assumption | decide | omega) hf_11 H.size) (cwV 0 hts gX1_safe_X1_digits rfl rfl rfl (by decide +kernel) ⟨Nat.le_of_ble_eq_true rfl, Nat.le_of_ble_eq_true rfl⟩) (he_preV (wc := [(oX1 v0 v1 v2 v3 (nI v) dd), (aI g v1 3 wo), (aI g v2 3 he_), (aI g v3 3 uf_10)]) hK hP hD hS hA hE [0, 1, 2, 3] rfl rfl 0 rfl rfl) rfl rfl hl.1 rfl (lv_room (Nat.le_of_ble_eq_true rfl)) dX1_safe_78 ⟨(Nat.le_of_ble_eq_true rfl), (Nat.le_of_ble_eq_true rfl)⟩) hP hD hS hA [0, 1, 2, 3] [] rfl rfl rfl (by decide) (fun r_16 u_17 H locs h_18 hP hD hS => ?_)
                  subst h_18
                  have hP : va_P g.1 vwCl [(oX1 v0 v1 v2 v3 (nI v) dd), (aI g v1 3 wo), (aI g v2 3 he_), (aI g v3 3 uf_10)] H := hP
                  have hD : va_D A [(oX1 v0 v1 v2 v3 (nI v) dd), (aI g v1 3 wo), (aI g v2 3 he_), (aI g v3 3 uf_10)] := hD
                  refine va_put (v := .int (nI (dsN (dgt (49 * x + 7 * y + (d - x - y))) v))) (ty := .int) (T := TX1) (N := 5) hx hb hts inX1 tyX1 tyX1_ok nmX1 hown hK hP hD hS 0 rfl rfl 4 (by decide) f37 (fun _ h9 => h9) rfl (by decide +kernel) rfl rfl (Nat.le_of_ble_eq_true rfl) dX1_safe_81 (fun H locs hP hD hS => ?_)
                  have hP : va_P g.1 vwCl [(oX1 v0 v1 v2 v3 (nI v) (nI (dsN (dgt (49 * x + 7 * y + (d - x - y))) v))), (aI g v1 3 wo), (aI g v2 3 he_), (aI g v3 3 uf_10)] H := hP
                  have hD : va_D A [(oX1 v0 v1 v2 v3 (nI v) (nI (dsN (dgt (49 * x + 7 * y + (d - x - y))) v))), (aI g v1 3 wo), (aI g v2 3 he_), (aI g v3 3 uf_10)] := hD
                  refine lv_iinc (v := nI (y + 1)) (lv' := [(6, .int (nI (y + 1))), (4, .int (nI (vS Wr an a (dgt (49 * x + 7 * y + (d - x - y)))))), (7, .int (nI (vS Wr an a (dgt (49 * x + 7 * y + (d - x - y)))))), (0, .ref v0), (1, .int (nI an)), (2, .int (nI a)), (3, .int (nI d)), (5, .int (nI x))]) hx hb dX1_safe_84 hl (k := 7) rfl (nI_1 y) (by decide) rfl (fun ls hl => ?_)
                  refine lv_goto (tgt := 20) hx hb dX1_safe_87 (by decide) ?_
                  exact ih20 (y + 1) (nI (vS Wr an a (dgt (49 * x + 7 * y + (d - x - y))))) (nI (dsN (dgt (49 * x + 7 * y + (d - x - y))) v)) uf_10 (by omega) (by omega) (by rw [hup]; rfl) (by rw [hup]; rfl) (by rw [qF_yy hpu]; exact bo_s hbo (vS_le hW9 _ _ _)) _ _ _ hP hD hS (lv_sub hl [3, 4, 5, 6, 1, 7, 0] rfl)
                refine lv_iload hx hb dX1_safe_59 (lv_at hl 5 rfl) ?_
                refine lv_iconst (v := (-1)) hx hb dX1_safe_61 (by decide) ?_
                refine lv_icmp_eq (tgt := 72) hx hb dX1_safe_62 (by decide) (fun c_19 => ?_) (fun c_19 => ?_)
                · exact join72 () (by rw [qF_yy hpu]; exact st_y (v := fun r9 => vS Wr an a (dgt r9)) hbo (by decide) (Nat.lt_of_le_of_lt (vS_le hW9 _ _ _) (by decide)) (Or.inl (by rw [← hle]; exact c_19))) _ _ _ hP hD hS (lv_sub hl [0, 1, 2, 3, 4, 5, 6, 7] rfl)
                · refine lv_iload hx hb dX1_safe_65 (lv_at hl 0 rfl) ?_
                  refine lv_iload hx hb dX1_safe_67 (lv_at hl 5 rfl) ?_
                  refine lv_icmp_ge (tgt := 84) hx hb dX1_safe_69 (by decide) (fun c_20 => ?_) (fun c_20 => ?_)
                  · refine lv_iinc (v := nI (y + 1)) (lv' := [(6, .int (nI (y + 1))), (7, .int (nI (vS Wr an a (dgt (49 * x + 7 * y + (d - x - y)))))), (0, .ref v0), (1, .int (nI an)), (2, .int (nI a)), (3, .int (nI d)), (4, .int le), (5, .int (nI x))]) hx hb dX1_safe_84 hl (k := 7) rfl (nI_1 y) (by decide) rfl (fun ls hl => ?_)
                    refine lv_goto (tgt := 20) hx hb dX1_safe_87 (by decide) ?_
                    exact ih20 (y + 1) le dd uf_10 (by omega) (by omega) (hle.trans (congrArg leI (show (qF (stF (fun r9 => vS Wr an a (dgt r9))) none d an x (y + 1)) = (qF (stF (fun r9 => vS Wr an a (dgt r9))) none d an x y) by rw [qF_yy hpu]; exact st_n (v := fun r9 => vS Wr an a (dgt r9)) hbo (by decide) (Nat.lt_of_le_of_lt (vS_le hW9 _ _ _) (by decide)) (by rw [← hle]; exact c_19) (by rw [← hle]; exact c_20)).symm)) (hdd.trans (congrArg (fun q9 => nI (dsN (dgt (roN q9)) v)) (show (qF (stF (fun r9 => vS Wr an a (dgt r9))) none d an x (y + 1)) = (qF (stF (fun r9 => vS Wr an a (dgt r9))) none d an x y) by rw [qF_yy hpu]; exact st_n (v := fun r9 => vS Wr an a (dgt r9)) hbo (by decide) (Nat.lt_of_le_of_lt (vS_le hW9 _ _ _) (by decide)) (by rw [← hle]; exact c_19) (by rw [← hle]; exact c_20)).symm)) (by rw [show (qF (stF (fun r9 => vS Wr an a (dgt r9))) none d an x (y + 1)) = (qF (stF (fun r9 => vS Wr an a (dgt r9))) none d an x y) from (by rw [qF_yy hpu]; exact st_n (v := fun r9 => vS Wr an a (dgt r9)) hbo (by decide) (Nat.lt_of_le_of_lt (vS_le hW9 _ _ _) (by decide)) (by rw [← hle]; exact c_19) (by rw [← hle]; exact c_20))]; exact hbo) _ _ _ hP hD hS (lv_sub hl [2, 3, 4, 5, 6, 7, 0] rfl)
                  · exact join72 () (by rw [qF_yy hpu]; exact st_y (v := fun r9 => vS Wr an a (dgt r9)) hbo (by decide) (Nat.lt_of_le_of_lt (vS_le hW9 _ _ _) (by decide)) (Or.inr (by rw [← hle]; exact c_20))) _ _ _ hP hD hS (lv_sub hl [0, 1, 2, 3, 4, 5, 6, 7] rfl)
              · have hpu : ¬ puB (49 * x + 7 * y + (d - x - y)) d an = true := pu_n (rw3 hd6 (by omega) (by omega)).2.2.2.2 c_12
                refine lv_goto (tgt := 84) hx hb dX1_safe_48 (by decide) ?_
                refine lv_iinc (v := nI (y + 1)) (lv' := [(6, .int (nI (y + 1))), (0, .ref v0), (1, .int (nI an)), (2, .int (nI a)), (3, .int (nI d)), (4, .int le), (5, .int (nI x))]) hx hb dX1_safe_84 hl (k := 6) rfl (nI_1 y) (by decide) rfl (fun ls hl => ?_)
                refine lv_goto (tgt := 20) hx hb dX1_safe_87 (by decide) ?_
                exact ih20 (y + 1) le dd uf_10 (by omega) (by omega) (hle.trans (by rw [qF_yn hpu])) (hdd.trans (by rw [qF_yn hpu])) (by rw [qF_yn hpu]; exact hbo) _ _ _ hP hD hS (lv_sub hl [1, 2, 3, 4, 5, 6, 0] rfl)
        exact loop20 ((d - x + 1 - 0) + 1) 0 le dd pu (Nat.lt_succ_self _) (Nat.zero_le _) hle hdd hbo _ _ _ hP hD hS (lv_sub hl [1, 2, 3, 4, 5, 6, 0] rfl)
  exact loop11 ((d + 1 - 0) + 1) 0 (-1) 0 pf (Nat.lt_succ_self _) (Nat.zero_le _) rfl (by rw [qF_0]; show (0 : Int32) = nI (dsN (dgt 0) v); rw [ds_0]; rfl) bo_n _ _ _ hP hD hS (lv_sub hl [2, 3, 4, 5, 1, 0] rfl)
set_option maxHeartbeats 4000000 in
set_option maxRecDepth 100000 in
theorem s_X1_sure (l : Launch) (g : he_G) (v0 : Nat) (v1 : Nat) (v2 : Nat) (v3 : Nat) (v : Nat) (dg : Int32) (wo : Nat → Int32) (he_ : Nat → Int32) (pf : Nat → Int32) (Wr : Nat → Nat) (d : Nat) (a : Nat) (hv3 : v ≤ 3) (hd6 : d ≤ 6) (ha6 : a ≤ 6) (hWH : ∀ k, k < 3 → bt (allN v) k = true → wo k = nI (Wr k) ∧ he_ k = nI (Wr k / 25)) (hW9 : ∀ k, Wr k ≤ 99) : he_I l yX1_sure wsX1_sure 3 60 0 0 g [.ref v0, .int (nI d), .int (nI a)] [(oX1 v0 v1 v2 v3 (nI v) dg), (aI g v1 3 wo), (aI g v2 3 he_), (aI g v3 3 pf)] (fun (r : Int32) (u : Nat → Int32) => r = nI (moC Wr (allN v) d a)) (fun (u : Nat → Int32) => [(oX1 v0 v1 v2 v3 (nI v) dg), (aI g v1 3 wo), (aI g v2 3 he_), (aI g v3 3 u)]) := by
  refine he_begin (l := l) (g := g) (y := yX1_sure) (wl := wsX1_sure) (fr := 3) (lo := 60) (mc := 0) (ms := 0) (av := [.ref v0, .int (nI d), .int (nI a)]) (ws := [(oX1 v0 v1 v2 v3 (nI v) dg), (aI g v1 3 wo), (aI g v2 3 he_), (aI g v3 3 pf)]) (cc := cX1_sure) (maxL := 6) (ret := (some .int)) (fun A => va_Qi (fun (r : Int32) (u : Nat → Int32) => r = nI (moC Wr (allN v) d a)) (fun u t => he_post g A ((fun (u : Nat → Int32) => [(oX1 v0 v1 v2 v3 (nI v) dg), (aI g v1 3 wo), (aI g v2 3 he_), (aI g v3 3 u)]) u) t) A) (by decide) rfl (Nat.le_of_ble_eq_true rfl) ?_
  intro p e s m args below meth c A ls H locs Q hQ hB
  obtain ⟨hx, hb, hr, hml, hown, hts, hlk, hin, hP, hK, hD, hS, hA, hE, hl⟩ := hB
  have hl : lv_has ls 6 [(0, .ref v0), (1, .int (nI d)), (2, .int (nI a))] := hl
  have h79 := all_7 hv3
  have ml51 := hts (.methodLink RX1 51 Lib.Math.max.name) (iwoX1_sure (k := 0) rfl)
  have msmax := hts (.static Lib.Math.max.name) (iwoX1_sure (k := 1) rfl)
  have mi := hts (.initialized "java/lang/Math") (iwoX1_sure (k := 2) rfl)
  have mcmax := hts (.code Lib.Math.max.name Lib.Math.max.code 2 (some .int)) (by decide +kernel)
  refine lv_iconst (v := 0) hx hb dX1_sure_0 (by decide) ?_
  refine lv_istore_n (lv' := [(3, .int 0), (0, .ref v0), (1, .int (nI d)), (2, .int (nI a))]) hx hb dX1_sure_1 rfl hl (by decide) rfl (fun ls hl => ?_)
  refine lv_iconst (v := 0) hx hb dX1_sure_2 (by decide) ?_
  refine lv_istore (lv' := [(4, .int 0), (3, .int 0), (0, .ref v0), (1, .int (nI d)), (2, .int (nI a))]) hx hb dX1_sure_3 hl (by decide) rfl (fun ls hl => ?_)
  have loop5 : ∀ (n9 : Nat) (x : Nat) (mx : Nat) (pu : Nat → Int32), d + 1 - x < n9 → (x ≤ d + 1) → (mx = (qF (mxS (fun r9 => uS Wr (allN v) a (dgt r9))) 0 d (allN v) x 0)) → ((qF (mxS (fun r9 => uS Wr (allN v) a (dgt r9))) 0 d (allN v) x 0) ≤ 297) → ∀ (H : Heap) (locs : List Loc) (ls : Array Slot), va_P g.1 vwCl [(oX1 v0 v1 v2 v3 (nI v) dg), (aI g v1 3 wo), (aI g v2 3 he_), (aI g v3 3 pu)] H → va_D A [(oX1 v0 v1 v2 v3 (nI v) dg), (aI g v1 3 wo), (aI g v2 3 he_), (aI g v3 3 pu)] → va_S A s.heap H locs → lv_has ls 6 [(0, .ref v0), (1, .int (nI d)), (2, .int (nI a)), (3, .int (nI mx)), (4, .int (nI x))] → W p l e (he_room 3 60 0 0) s m args below meth c H locs 0 0 Q (F0 m 5 ls []) := by
    intro n9
    induction n9 with
    | zero => intro x mx pu hm9; exact absurd hm9 (Nat.not_lt_zero _)
    | succ n9 ih5 =>
      intro x mx pu hm9 hx6 hmx hmb H locs ls hP hD hS hl
      refine lv_iload hx hb dX1_sure_5 (lv_at hl 4 rfl) ?_
      refine lv_iload_n hx hb dX1_sure_7 rfl (lv_at hl 1 rfl) ?_
      refine lv_icmp_gt (tgt := 67) hx hb dX1_sure_8 (by decide) (fun c_1 => ?_) (fun c_1 => ?_)
      · have k_2 : d < x := (he_clt (a := d) (b := x) rfl rfl (by omega) (by omega)).mp c_1
        refine lv_iload_n hx hb dX1_sure_67 rfl (lv_at hl 3 rfl) ?_
        exact he_ri hQ hx hb hr hlk hP hD hS dX1_sure_68 (Nat.le_of_ble_eq_true rfl) (Nat.le_of_ble_eq_true rfl) (pu) (rfl) ((congrArg nI (by rw [hmx, show x = d + 1 by omega]; rfl)))
      · have k_3 : ¬ (d < x) := fun h9 => c_1 ((he_clt (a := d) (b := x) rfl rfl (by omega) (by omega)).mpr h9)
        refine lv_iconst (v := 0) hx hb dX1_sure_11 (by decide) ?_
        refine lv_istore (lv' := [(5, .int 0), (0, .ref v0), (1, .int (nI d)), (2, .int (nI a)), (3, .int (nI mx)), (4, .int (nI x))]) hx hb dX1_sure_12 hl (by decide) rfl (fun ls hl => ?_)
        have loop14 : ∀ (n9 : Nat) (y : Nat) (mx : Nat) (pu : Nat → Int32), d - x + 1 - y < n9 → (y ≤ d - x + 1) → (mx = (qF (mxS (fun r9 => uS Wr (allN v) a (dgt r9))) 0 d (allN v) x y)) → ((qF (mxS (fun r9 => uS Wr (allN v) a (dgt r9))) 0 d (allN v) x y) ≤ 297) → ∀ (H : Heap) (locs : List Loc) (ls : Array Slot), va_P g.1 vwCl [(oX1 v0 v1 v2 v3 (nI v) dg), (aI g v1 3 wo), (aI g v2 3 he_), (aI g v3 3 pu)] H → va_D A [(oX1 v0 v1 v2 v3 (nI v) dg), (aI g v1 3 wo), (aI g v2 3 he_), (aI g v3 3 pu)] → va_S A s.heap H locs → lv_has ls 6 [(0, .ref v0), (1, .int (nI d)), (2, .int (nI a)), (3, .int (nI mx)), (4, .int (nI x)), (5, .int (nI y))] → W p l e (he_room 3 60 0 0) s m args below meth c H locs 0 0 Q (F0 m 14 ls []) := by
          intro n9
          induction n9 with
          | zero => intro y mx pu hm9; exact absurd hm9 (Nat.not_lt_zero _)
          | succ n9 ih14 =>
            intro y mx pu hm9 hy6 hmx hmb H locs ls hP hD hS hl
            refine lv_iload hx hb dX1_sure_14 (lv_at hl 5 rfl) ?_
            refine lv_iload_n hx hb dX1_sure_16 rfl (lv_at hl 1 rfl) ?_
            refine lv_iload hx hb dX1_sure_17 (lv_at hl 4 rfl) ?_
            refine lv_isub hx hb dX1_sure_19 ?_
            refine he_top (nI (d - x)) (pk_sub (by omega)) ?_
            refine lv_icmp_gt (tgt := 61) hx hb dX1_sure_20 (by decide) (fun c_4 => ?_) (fun c_4 => ?_)
            · have k_5 : d - x < y := (he_clt (a := d - x) (b := y) rfl rfl (by omega) (by omega)).mp c_4
              refine lv_iinc (v := nI (x + 1)) (lv' := [(4, .int (nI (x + 1))), (0, .ref v0), (1, .int (nI d)), (2, .int (nI a)), (3, .int (nI mx)), (5, .int (nI y))]) hx hb dX1_sure_61 hl (k := 4) rfl (nI_1 x) (by decide) rfl (fun ls hl => ?_)
              refine lv_goto (tgt := 5) hx hb dX1_sure_64 (by decide) ?_
              exact ih5 (x + 1) mx pu (by omega) (by omega) (by rw [qF_x, ← show y = d + 1 - x by omega]; exact hmx) (by rw [qF_x, ← show y = d + 1 - x by omega]; exact hmb) _ _ _ hP hD hS (lv_sub hl [1, 2, 3, 4, 0] rfl)
            · have k_6 : ¬ (d - x < y) := fun h9 => c_4 ((he_clt (a := d - x) (b := y) rfl rfl (by omega) (by omega)).mpr h9)
              refine lv_aload_n hx hb dX1_sure_23 rfl (lv_at hl 0 rfl) ?_
              refine lv_aload_n hx hb dX1_sure_24 rfl (lv_at hl 0 rfl) ?_
              refine he_ci (wc := [(oX1 v0 v1 v2 v3 (nI v) dg), (aI g v1 3 wo), (aI g v2 3 he_), (aI g v3 3 pu)]) (wr := []) (va_runV (As := []) (rest := [.ref v0]) ⟨hx, hb, hml, hown, hts⟩ (g_X1_all l g v0 v1 v2 v3 v dg wo he_ pu (by first | assumption | decide | omega) H.size) (cwV 0 hts gX1_sure_X1_all rfl rfl rfl (by decide +kernel) ⟨Nat.le_of_ble_eq_true rfl, Nat.le_of_ble_eq_true rfl⟩) (he_preV (wc := [(oX1 v0 v1 v2 v3 (nI v) dg), (aI g v1 3 wo), (aI g v2 3 he_), (aI g v3 3 pu)]) hK hP hD hS hA hE [0, 1, 2, 3] rfl rfl 0 rfl rfl) rfl rfl hl.1 rfl (lv_room (Nat.le_of_ble_eq_true rfl)) dX1_sure_25 ⟨(Nat.le_of_ble_eq_true rfl), (Nat.le_of_ble_eq_true rfl)⟩) hP hD hS hA [0, 1, 2, 3] [] rfl rfl rfl (by decide) (fun r_7 u_8 H locs h_9 hP hD hS => ?_)
              subst h_9
              have hP : va_P g.1 vwCl [(oX1 v0 v1 v2 v3 (nI v) dg), (aI g v1 3 wo), (aI g v2 3 he_), (aI g v3 3 pu)] H := hP
              have hD : va_D A [(oX1 v0 v1 v2 v3 (nI v) dg), (aI g v1 3 wo), (aI g v2 3 he_), (aI g v3 3 pu)] := hD
              refine lv_iload hx hb dX1_sure_28 (lv_at hl 4 rfl) ?_
              refine lv_iload hx hb dX1_sure_30 (lv_at hl 5 rfl) ?_
              refine lv_iload_n hx hb dX1_sure_32 rfl (lv_at hl 1 rfl) ?_
              refine lv_iload hx hb dX1_sure_33 (lv_at hl 4 rfl) ?_
              refine lv_isub hx hb dX1_sure_35 ?_
              refine he_top (nI (d - x)) (pk_sub (by omega)) ?_
              refine lv_iload hx hb dX1_sure_36 (lv_at hl 5 rfl) ?_
              refine lv_isub hx hb dX1_sure_38 ?_
              refine he_top (nI (d - x - y)) (pk_sub (by omega)) ?_
              refine he_ci (wc := [(oX1 v0 v1 v2 v3 (nI v) dg), (aI g v1 3 wo), (aI g v2 3 he_), (aI g v3 3 pu)]) (wr := []) (va_runV (As := [.int (nI (allN v)), .int (nI x), .int (nI y), .int (nI (d - x - y))]) (rest := []) ⟨hx, hb, hml, hown, hts⟩ (s_X1_place l g v0 v1 v2 v3 v dg wo he_ pu (dgt (49 * x + 7 * y + (d - x - y))) (allN v) x y (d - x - y) (by omega) (rw3 hd6 (by omega) (by omega)).1 (rw3 hd6 (by omega) (by omega)).2.1 (rw3 hd6 (by omega) (by omega)).2.2.1 (dgt_le (rw3 hd6 (by omega) (by omega)).2.2.2.1) H.size) (cwV 4 hts gX1_sure_X1_place rfl rfl rfl (by decide +kernel) ⟨Nat.le_of_ble_eq_true rfl, Nat.le_of_ble_eq_true rfl⟩) (he_preV (wc := [(oX1 v0 v1 v2 v3 (nI v) dg), (aI g v1 3 wo), (aI g v2 3 he_), (aI g v3 3 pu)]) hK hP hD hS hA hE [0, 1, 2, 3] rfl rfl 0 rfl rfl) rfl rfl hl.1 rfl (lv_room (Nat.le_of_ble_eq_true rfl)) dX1_sure_39 ⟨(Nat.le_of_ble_eq_true rfl), (Nat.le_of_ble_eq_true rfl)⟩) hP hD hS hA [0, 1, 2, 3] [] rfl rfl rfl (by decide) (fun r_10 u_11 H locs h_12 hP hD hS => ?_)
              obtain ⟨uf_13, rfl⟩ : ∃ z, z = u_11 := ⟨_, rfl⟩
              try dsimp only at h_12
              obtain ⟨rfl, hf_14⟩ := h_12
              have hP : va_P g.1 vwCl [(oX1 v0 v1 v2 v3 (nI v) dg), (aI g v1 3 wo), (aI g v2 3 he_), (aI g v3 3 uf_13)] H := hP
              have hD : va_D A [(oX1 v0 v1 v2 v3 (nI v) dg), (aI g v1 3 wo), (aI g v2 3 he_), (aI g v3 3 uf_13)] := hD
              refine lv_if_eq (tgt := 55) hx hb dX1_sure_42 (by decide) (fun c_15 => ?_) (fun c_15 => ?_)
              · have hpu : ¬ puB (49 * x + 7 * y + (d - x - y)) d (allN v) = true := pu_n (rw3 hd6 (by omega) (by omega)).2.2.2.2 c_15
                refine lv_iinc (v := nI (y + 1)) (lv' := [(5, .int (nI (y + 1))), (0, .ref v0), (1, .int (nI d)), (2, .int (nI a)), (3, .int (nI mx)), (4, .int (nI x))]) hx hb dX1_sure_55 hl (k := 5) rfl (nI_1 y) (by decide) rfl (fun ls hl => ?_)
                refine lv_goto (tgt := 14) hx hb dX1_sure_58 (by decide) ?_
                exact ih14 (y + 1) mx uf_13 (by omega) (by omega) (by rw [qF_yn hpu]; exact hmx) (by rw [qF_yn hpu]; exact hmb) _ _ _ hP hD hS (lv_sub hl [1, 2, 3, 4, 5, 0] rfl)
              · have hpu : puB (49 * x + 7 * y + (d - x - y)) d (allN v) = true := pu_y (rw3 hd6 (by omega) (by omega)).2.2.2.2 c_15
                refine lv_iload_n hx hb dX1_sure_45 rfl (lv_at hl 3 rfl) ?_
                refine lv_aload_n hx hb dX1_sure_46 rfl (lv_at hl 0 rfl) ?_
                refine lv_iload_n hx hb dX1_sure_47 rfl (lv_at hl 2 rfl) ?_
                refine he_ci (wc := [(oX1 v0 v1 v2 v3 (nI v) dg), (aI g v1 3 wo), (aI g v2 3 he_), (aI g v3 3 uf_13)]) (wr := []) (va_runV (As := [.int (nI a)]) (rest := [.int (nI mx)]) ⟨hx, hb, hml, hown, hts⟩ (s_X1_leastFelled l g v0 v1 v2 v3 v dg wo he_ uf_13 Wr (dgt (49 * x + 7 * y + (d - x - y))) a (by first | assumption | decide | omega) (by first | assumption | decide | omega) (by first | assumption | decide | omega) hf_14 (dgt_le (rw3 hd6 (by omega) (by omega)).2.2.2.1) (by first | assumption | decide | omega) H.size) (cwV 1 hts gX1_sure_X1_leastFelled rfl rfl rfl (by decide +kernel) ⟨Nat.le_of_ble_eq_true rfl, Nat.le_of_ble_eq_true rfl⟩) (he_preV (wc := [(oX1 v0 v1 v2 v3 (nI v) dg), (aI g v1 3 wo), (aI g v2 3 he_), (aI g v3 3 uf_13)]) hK hP hD hS hA hE [0, 1, 2, 3] rfl rfl 0 rfl rfl) rfl rfl hl.1 rfl (lv_room (Nat.le_of_ble_eq_true rfl)) dX1_sure_48 ⟨(Nat.le_of_ble_eq_true rfl), (Nat.le_of_ble_eq_true rfl)⟩) hP hD hS hA [0, 1, 2, 3] [] rfl rfl rfl (by decide) (fun r_16 u_17 H locs h_18 hP hD hS => ?_)
                subst h_18
                have hP : va_P g.1 vwCl [(oX1 v0 v1 v2 v3 (nI v) dg), (aI g v1 3 wo), (aI g v2 3 he_), (aI g v3 3 uf_13)] H := hP
                have hD : va_D A [(oX1 v0 v1 v2 v3 (nI v) dg), (aI g v1 3 wo), (aI g v2 3 he_), (aI g v3 3 uf_13)] := hD
                refine va_mmax hx hb (by rw [hml]; exact hl.1.symm) hown ml51 msmax mi mcmax (by decide) (Nat.le_of_ble_eq_true rfl) (Nat.le_of_ble_eq_true rfl) (Nat.le_of_ble_eq_true rfl) dX1_sure_51 ?_
                refine he_top (nI (if mx < uS Wr (allN v) a (dgt (49 * x + 7 * y + (d - x - y))) then uS Wr (allN v) a (dgt (49 * x + 7 * y + (d - x - y))) else mx)) (mx_if (by rw [hmx]; exact Nat.lt_of_le_of_lt hmb (by decide)) (Nat.lt_of_le_of_lt (uS_le hW9 _ _ _) (by decide))) ?_
                refine lv_istore_n (lv' := [(3, .int (nI (if mx < uS Wr (allN v) a (dgt (49 * x + 7 * y + (d - x - y))) then uS Wr (allN v) a (dgt (49 * x + 7 * y + (d - x - y))) else mx))), (0, .ref v0), (1, .int (nI d)), (2, .int (nI a)), (4, .int (nI x)), (5, .int (nI y))]) hx hb dX1_sure_54 rfl hl (by decide) rfl (fun ls hl => ?_)
                refine lv_iinc (v := nI (y + 1)) (lv' := [(5, .int (nI (y + 1))), (3, .int (nI (if mx < uS Wr (allN v) a (dgt (49 * x + 7 * y + (d - x - y))) then uS Wr (allN v) a (dgt (49 * x + 7 * y + (d - x - y))) else mx))), (0, .ref v0), (1, .int (nI d)), (2, .int (nI a)), (4, .int (nI x))]) hx hb dX1_sure_55 hl (k := 5) rfl (nI_1 y) (by decide) rfl (fun ls hl => ?_)
                refine lv_goto (tgt := 14) hx hb dX1_sure_58 (by decide) ?_
                exact ih14 (y + 1) (if mx < uS Wr (allN v) a (dgt (49 * x + 7 * y + (d - x - y))) then uS Wr (allN v) a (dgt (49 * x + 7 * y + (d - x - y))) else mx) uf_13 (by omega) (by omega) (by rw [qF_yy hpu, hmx]; rfl) (by rw [qF_yy hpu, ← hmx]; have h8 := uS_le hW9 (allN v) a (dgt (49 * x + 7 * y + (d - x - y))); have h9 : mx ≤ 297 := (by rw [hmx]; exact hmb); show (if mx < uS Wr (allN v) a (dgt (49 * x + 7 * y + (d - x - y))) then uS Wr (allN v) a (dgt (49 * x + 7 * y + (d - x - y))) else mx) ≤ 297; split <;> omega) _ _ _ hP hD hS (lv_sub hl [2, 3, 4, 1, 5, 0] rfl)
        exact loop14 ((d - x + 1 - 0) + 1) 0 mx pu (Nat.lt_succ_self _) (Nat.zero_le _) hmx hmb _ _ _ hP hD hS (lv_sub hl [1, 2, 3, 4, 5, 0] rfl)
  exact loop5 ((d + 1 - 0) + 1) 0 0 pf (Nat.lt_succ_self _) (Nat.zero_le _) rfl (Nat.zero_le _) _ _ _ hP hD hS (lv_sub hl [2, 3, 4, 1, 0] rfl)
set_option maxHeartbeats 4000000 in
set_option maxRecDepth 100000 in
theorem s_X1_prepare (l : Launch) (g : he_G) (v0 : Nat) (v1 : Nat) (v2 : Nat) (v3 : Nat) (ww : Int32) (dg : Int32) (wo : Nat → Int32) (he_ : Nat → Int32) (pf : Nat → Int32) (p0 : Nat) (p1 : Nat) (p2 : Nat) (p3 : Nat) (p4 : Nat) (w : Nat) (st : Nat → Int32) (Wr : Nat → Nat) (hw6 : w ≤ 6) (hst : ∀ k, k < w → st k = nI (Wr k)) (hW9 : ∀ k, Wr k ≤ 99) : he_V l yX1_prepare wsX1_prepare 1 14 0 0 g [.ref v0, .ref p0] [(oX1 v0 v1 v2 v3 ww dg), (aI g v1 3 wo), (aI g v2 3 he_), (aI g v3 3 pf), (oX6 p0 p1 p2 p3 p4 (nI w)), (aI g p3 6 st)] (fun (u : (Nat → Int32) × (Nat → Int32)) => ∀ k, k < (if 3 < w then 3 else w) → u.1 k = nI (Wr k) ∧ u.2 k = nI (Wr k / 25)) (fun (u : (Nat → Int32) × (Nat → Int32)) => [(oX1 v0 v1 v2 v3 (nI (if 3 < w then 3 else w)) dg), (aI g v1 3 u.1), (aI g v2 3 u.2), (aI g v3 3 pf), (oX6 p0 p1 p2 p3 p4 (nI w)), (aI g p3 6 st)]) := by
  refine he_begin (l := l) (g := g) (y := yX1_prepare) (wl := wsX1_prepare) (fr := 1) (lo := 14) (mc := 0) (ms := 0) (av := [.ref v0, .ref p0]) (ws := [(oX1 v0 v1 v2 v3 ww dg), (aI g v1 3 wo), (aI g v2 3 he_), (aI g v3 3 pf), (oX6 p0 p1 p2 p3 p4 (nI w)), (aI g p3 6 st)]) (cc := cX1_prepare) (maxL := 3) (ret := none) (fun A => va_Qv (fun (u : (Nat → Int32) × (Nat → Int32)) => ∀ k, k < (if 3 < w then 3 else w) → u.1 k = nI (Wr k) ∧ u.2 k = nI (Wr k / 25)) (fun u t => he_post g A ((fun (u : (Nat → Int32) × (Nat → Int32)) => [(oX1 v0 v1 v2 v3 (nI (if 3 < w then 3 else w)) dg), (aI g v1 3 u.1), (aI g v2 3 u.2), (aI g v3 3 pf), (oX6 p0 p1 p2 p3 p4 (nI w)), (aI g p3 6 st)]) u) t) A) (by decide) rfl (Nat.le_of_ble_eq_true rfl) ?_
  intro p e s m args below meth c A ls H locs Q hQ hB
  obtain ⟨hx, hb, hr, hml, hown, hts, hlk, hin, hP, hK, hD, hS, hA, hE, hl⟩ := hB
  have hl : lv_has ls 3 [(0, .ref v0), (1, .ref p0)] := hl
  have hv9 := v3_le w
  have f21 := hts (.fieldLink RX1 21 "HiredEnemy$Plan" "walls" "I") (iwoX1_prepare (k := 0) rfl)
  have inX6 : ∀ w ∈ wsX60, w ∈ wsX1_prepare := innX1_prepare_X6
  have ml27 := hts (.methodLink RX1 27 Lib.Math.min.name) (iwoX1_prepare (k := 1) rfl)
  have msmin := hts (.static Lib.Math.min.name) (iwoX1_prepare (k := 2) rfl)
  have mi := hts (.initialized "java/lang/Math") (iwoX1_prepare (k := 3) rfl)
  have mcmin := hts (.code Lib.Math.min.name Lib.Math.min.code 2 (some .int)) (iwoX1_prepare (k := 4) rfl)
  have f33 := hts (.fieldLink RX1 33 "HiredEnemy$Battle" "walls" "I") (iwoX1_prepare (k := 5) rfl)
  have inX1 : ∀ w ∈ wsX10, w ∈ wsX1_prepare := innX1_prepare_X1
  have f11 := hts (.fieldLink RX1 11 "HiredEnemy$Battle" "worth" "[I") (iwoX1_prepare (k := 6) rfl)
  have f34 := hts (.fieldLink RX1 34 "HiredEnemy$Plan" "strength" "[I") (iwoX1_prepare (k := 7) rfl)
  have f15 := hts (.fieldLink RX1 15 "HiredEnemy$Battle" "held" "[I") (iwoX1_prepare (k := 8) rfl)
  refine lv_aload_n hx hb dX1_prepare_0 rfl (lv_at hl 0 rfl) ?_
  refine lv_aload_n hx hb dX1_prepare_1 rfl (lv_at hl 1 rfl) ?_
  refine va_get (v := .int (nI w)) (T := TX6) (N := 5) hx hb hts inX6 hown hK hP 4 rfl rfl 4 (by decide) f21 (fun _ h9 => h9) rfl dX1_prepare_2 ?_
  refine lv_iconst (v := 3) hx hb dX1_prepare_5 (by decide) ?_
  refine va_mmin hx hb (by rw [hml]; exact hl.1.symm) hown ml27 msmin mi mcmin (by decide) (Nat.le_of_ble_eq_true rfl) (Nat.le_of_ble_eq_true rfl) (Nat.le_of_ble_eq_true rfl) dX1_prepare_6 ?_
  refine he_top (nI (if 3 < w then 3 else w)) (nI_min3 hw6) ?_
  refine va_put (v := .int (nI (if 3 < w then 3 else w))) (ty := .int) (T := TX1) (N := 5) hx hb hts inX1 tyX1 tyX1_ok nmX1 hown hK hP hD hS 0 rfl rfl 3 (by decide) f33 (fun _ h9 => h9) rfl (by decide +kernel) rfl rfl (Nat.le_of_ble_eq_true rfl) dX1_prepare_9 (fun H locs hP hD hS => ?_)
  have hP : va_P g.1 vwCl [(oX1 v0 v1 v2 v3 (nI (if 3 < w then 3 else w)) dg), (aI g v1 3 wo), (aI g v2 3 he_), (aI g v3 3 pf), (oX6 p0 p1 p2 p3 p4 (nI w)), (aI g p3 6 st)] H := hP
  have hD : va_D A [(oX1 v0 v1 v2 v3 (nI (if 3 < w then 3 else w)) dg), (aI g v1 3 wo), (aI g v2 3 he_), (aI g v3 3 pf), (oX6 p0 p1 p2 p3 p4 (nI w)), (aI g p3 6 st)] := hD
  refine lv_iconst (v := 0) hx hb dX1_prepare_12 (by decide) ?_
  refine lv_istore_n (lv' := [(2, .int 0), (0, .ref v0), (1, .ref p0)]) hx hb dX1_prepare_13 rfl hl (by decide) rfl (fun ls hl => ?_)
  have loop14 : ∀ (n9 : Nat) (j : Nat) (F : Nat → Int32) (G : Nat → Int32), (if 3 < w then 3 else w) - j < n9 → (j ≤ (if 3 < w then 3 else w)) → (∀ k, k < j → F k = nI (Wr k) ∧ G k = nI (Wr k / 25)) → ∀ (H : Heap) (locs : List Loc) (ls : Array Slot), va_P g.1 vwCl [(oX1 v0 v1 v2 v3 (nI (if 3 < w then 3 else w)) dg), (aI g v1 3 F), (aI g v2 3 G), (aI g v3 3 pf), (oX6 p0 p1 p2 p3 p4 (nI w)), (aI g p3 6 st)] H → va_D A [(oX1 v0 v1 v2 v3 (nI (if 3 < w then 3 else w)) dg), (aI g v1 3 F), (aI g v2 3 G), (aI g v3 3 pf), (oX6 p0 p1 p2 p3 p4 (nI w)), (aI g p3 6 st)] → va_S A s.heap H locs → lv_has ls 3 [(0, .ref v0), (1, .ref p0), (2, .int (nI j))] → W p l e (he_room 1 14 0 0) s m args below meth c H locs 0 0 Q (F0 m 14 ls []) := by
    intro n9
    induction n9 with
    | zero => intro j F G hm9; exact absurd hm9 (Nat.not_lt_zero _)
    | succ n9 ih14 =>
      intro j F G hm9 hj hFG H locs ls hP hD hS hl
      refine lv_iload_n hx hb dX1_prepare_14 rfl (lv_at hl 2 rfl) ?_
      refine lv_aload_n hx hb dX1_prepare_15 rfl (lv_at hl 0 rfl) ?_
      refine va_get (v := .int (nI (if 3 < w then 3 else w))) (T := TX1) (N := 5) hx hb hts inX1 hown hK hP 0 rfl rfl 3 (by decide) f33 (fun _ h9 => h9) rfl dX1_prepare_16 ?_
      refine lv_icmp_ge (tgt := 55) hx hb dX1_prepare_19 (by decide) (fun c_1 => ?_) (fun c_1 => ?_)
      · have k_2 : (if 3 < w then 3 else w) ≤ j := (he_cle (a := (if 3 < w then 3 else w)) (b := j) rfl rfl (by omega) (by omega)).mp c_1
        exact he_rv hQ hx hb hr hlk hP hD hS dX1_prepare_55 (Nat.le_of_ble_eq_true rfl) (Nat.le_of_ble_eq_true rfl) ((F, G)) (rfl) ((fun k9 h9 => hFG k9 (by (try dsimp only); omega)))
      · have k_3 : ¬ ((if 3 < w then 3 else w) ≤ j) := fun h9 => c_1 ((he_cle (a := (if 3 < w then 3 else w)) (b := j) rfl rfl (by omega) (by omega)).mpr h9)
        refine lv_aload_n hx hb dX1_prepare_22 rfl (lv_at hl 0 rfl) ?_
        refine va_get (v := .ref v1) (T := TX1) (N := 5) hx hb hts inX1 hown hK hP 0 rfl rfl 0 (by decide) f11 (fun _ h9 => h9) rfl dX1_prepare_23 ?_
        refine lv_iload_n hx hb dX1_prepare_26 rfl (lv_at hl 2 rfl) ?_
        refine lv_aload_n hx hb dX1_prepare_27 rfl (lv_at hl 1 rfl) ?_
        refine va_get (v := .ref p3) (T := TX6) (N := 5) hx hb hts inX6 hown hK hP 4 rfl rfl 2 (by decide) f34 (fun _ h9 => h9) rfl dX1_prepare_28 ?_
        refine lv_iload_n hx hb dX1_prepare_31 rfl (lv_at hl 2 rfl) ?_
        refine he_iald hx hb hK hP 5 rfl (j) rfl (by first | assumption | decide | omega) (by first | decide | assumption) (st j) rfl dX1_prepare_32 ?_
        refine he_iast hx hb hK hP hD hS 1 rfl (j) rfl (by first | assumption | decide | omega) (by first | decide | assumption) dX1_prepare_33 (fun H locs hP hD hS => ?_)
        have hP : va_P g.1 vwCl [(oX1 v0 v1 v2 v3 (nI (if 3 < w then 3 else w)) dg), (aI g v1 3 (upd F j (st j))), (aI g v2 3 G), (aI g v3 3 pf), (oX6 p0 p1 p2 p3 p4 (nI w)), (aI g p3 6 st)] H := hP
        have hD : va_D A [(oX1 v0 v1 v2 v3 (nI (if 3 < w then 3 else w)) dg), (aI g v1 3 (upd F j (st j))), (aI g v2 3 G), (aI g v3 3 pf), (oX6 p0 p1 p2 p3 p4 (nI w)), (aI g p3 6 st)] := hD
        refine lv_aload_n hx hb dX1_prepare_34 rfl (lv_at hl 0 rfl) ?_
        refine va_get (v := .ref v2) (T := TX1) (N := 5) hx hb hts inX1 hown hK hP 0 rfl rfl 1 (by decide) f15 (fun _ h9 => h9) rfl dX1_prepare_35 ?_
        refine lv_iload_n hx hb dX1_prepare_38 rfl (lv_at hl 2 rfl) ?_
        refine lv_aload_n hx hb dX1_prepare_39 rfl (lv_at hl 1 rfl) ?_
        refine va_get (v := .ref p3) (T := TX6) (N := 5) hx hb hts inX6 hown hK hP 4 rfl rfl 2 (by decide) f34 (fun _ h9 => h9) rfl dX1_prepare_40 ?_
        refine lv_iload_n hx hb dX1_prepare_43 rfl (lv_at hl 2 rfl) ?_
        refine he_iald hx hb hK hP 5 rfl (j) rfl (by first | assumption | decide | omega) (by first | decide | assumption) (st j) rfl dX1_prepare_44 ?_
        refine lv_bipush (v := 25) hx hb dX1_prepare_45 (by decide) ?_
        refine lv_idiv hx hb dX1_prepare_47 (by decide) ?_
        refine he_iast hx hb hK hP hD hS 2 rfl (j) rfl (by first | assumption | decide | omega) (by first | decide | assumption) dX1_prepare_48 (fun H locs hP hD hS => ?_)
        have hP : va_P g.1 vwCl [(oX1 v0 v1 v2 v3 (nI (if 3 < w then 3 else w)) dg), (aI g v1 3 (upd F j (st j))), (aI g v2 3 (upd G j ((st j) / 25))), (aI g v3 3 pf), (oX6 p0 p1 p2 p3 p4 (nI w)), (aI g p3 6 st)] H := hP
        have hD : va_D A [(oX1 v0 v1 v2 v3 (nI (if 3 < w then 3 else w)) dg), (aI g v1 3 (upd F j (st j))), (aI g v2 3 (upd G j ((st j) / 25))), (aI g v3 3 pf), (oX6 p0 p1 p2 p3 p4 (nI w)), (aI g p3 6 st)] := hD
        refine lv_iinc (v := nI (j + 1)) (lv' := [(2, .int (nI (j + 1))), (0, .ref v0), (1, .ref p0)]) hx hb dX1_prepare_49 hl (k := 2) rfl (nI_1 j) (by decide) rfl (fun ls hl => ?_)
        refine lv_goto (tgt := 14) hx hb dX1_prepare_52 (by decide) ?_
        exact ih14 (j + 1) (upd F j (st j)) (upd G j ((st j) / 25)) (by omega) (by omega) (pr_s hFG (hst j (v3_lt (by omega))) (hW9 j)) _ _ _ hP hD hS (lv_sub hl [1, 2, 0] rfl)
  exact loop14 (((if 3 < w then 3 else w) - 0) + 1) 0 wo he_ (Nat.lt_succ_self _) (Nat.zero_le _) (fun k9 h9 => absurd h9 (Nat.not_lt_zero k9)) _ _ _ hP hD hS (lv_sub hl [1, 2, 0] rfl)
set_option maxHeartbeats 4000000 in
set_option maxRecDepth 100000 in
theorem s_X10_earnest0 (l : Launch) (g : he_G) (x0 : Nat) (y0 : Nat) (z0 : Nat) (dr : Nat) (pa : Nat) (s0 : Nat) (im : Nat) (tr : Nat) (v0 : Nat) (rf : Nat) (ta : Int32) (to_ : Int32) (ki : Int32) (p0 : Nat) (p1 : Nat) (p2 : Nat) (p3 : Nat) (p4 : Nat) (w : Nat) (st : Nat → Int32) (v1 : Nat) (v2 : Nat) (v3 : Nat) (ww : Int32) (dg : Int32) (wo : Nat → Int32) (he_ : Nat → Int32) (pf : Nat → Int32) (a : Nat) (d : Nat) (Wr : Nat → Nat) (hw6 : w ≤ 6) (ha6 : a ≤ 6) (hd6 : d ≤ 6) (hst : ∀ k, k < w → st k = nI (Wr k)) (hW9 : ∀ k, Wr k ≤ 99) : he_I l yX10_earnest wsX10_earnest 3 74 0 0 g [.ref x0, .int (nI a), .int (nI d), .int 0] [(oX10 x0 y0 ta z0 p0 dr pa to_ s0 im ki tr v0 rf), (oX6 p0 p1 p2 p3 p4 (nI w)), (aI g p3 6 st), (oX1 v0 v1 v2 v3 ww dg), (aI g v1 3 wo), (aI g v2 3 he_), (aI g v3 3 pf)] (fun (r : Int32) (u : Int32 × (Nat → Int32) × (Nat → Int32) × (Nat → Int32)) => r = nI (leN (foC Wr (allN (if 3 < w then 3 else w)) a d))) (fun (u : Int32 × (Nat → Int32) × (Nat → Int32) × (Nat → Int32)) => [(oX10 x0 y0 ta z0 p0 dr pa to_ s0 im ki tr v0 rf), (oX6 p0 p1 p2 p3 p4 (nI w)), (aI g p3 6 st), (oX1 v0 v1 v2 v3 (nI (if 3 < w then 3 else w)) u.1), (aI g v1 3 u.2.1), (aI g v2 3 u.2.2.1), (aI g v3 3 u.2.2.2)]) := by
  refine he_begin (l := l) (g := g) (y := yX10_earnest) (wl := wsX10_earnest) (fr := 3) (lo := 74) (mc := 0) (ms := 0) (av := [.ref x0, .int (nI a), .int (nI d), .int 0]) (ws := [(oX10 x0 y0 ta z0 p0 dr pa to_ s0 im ki tr v0 rf), (oX6 p0 p1 p2 p3 p4 (nI w)), (aI g p3 6 st), (oX1 v0 v1 v2 v3 ww dg), (aI g v1 3 wo), (aI g v2 3 he_), (aI g v3 3 pf)]) (cc := cX10_earnest) (maxL := 4) (ret := (some .int)) (fun A => va_Qi (fun (r : Int32) (u : Int32 × (Nat → Int32) × (Nat → Int32) × (Nat → Int32)) => r = nI (leN (foC Wr (allN (if 3 < w then 3 else w)) a d))) (fun u t => he_post g A ((fun (u : Int32 × (Nat → Int32) × (Nat → Int32) × (Nat → Int32)) => [(oX10 x0 y0 ta z0 p0 dr pa to_ s0 im ki tr v0 rf), (oX6 p0 p1 p2 p3 p4 (nI w)), (aI g p3 6 st), (oX1 v0 v1 v2 v3 (nI (if 3 < w then 3 else w)) u.1), (aI g v1 3 u.2.1), (aI g v2 3 u.2.2.1), (aI g v3 3 u.2.2.2)]) u) t) A) (by decide) rfl (Nat.le_of_ble_eq_true rfl) ?_
  intro p e s m args below meth c A ls H locs Q hQ hB
  obtain ⟨hx, hb, hr, hml, hown, hts, hlk, hin, hP, hK, hD, hS, hA, hE, hl⟩ := hB
  have hl : lv_has ls 4 [(0, .ref x0), (1, .int (nI a)), (2, .int (nI d)), (3, .int 0)] := hl
  have f57 := hts (.fieldLink RX10 57 "HiredEnemy" "battle" "LHiredEnemy$Battle;") (iwoX10_earnest (k := 0) rfl)
  have inX10 : ∀ w ∈ wsX100, w ∈ wsX10_earnest := innX10_earnest_X10
  have f23 := hts (.fieldLink RX10 23 "HiredEnemy" "plan" "LHiredEnemy$Plan;") (iwoX10_earnest (k := 1) rfl)
  refine lv_aload_n hx hb dX10_earnest_0 rfl (lv_at hl 0 rfl) ?_
  refine lv_iload_n hx hb dX10_earnest_1 rfl (lv_at hl 1 rfl) ?_
  refine lv_iconst (v := 0) hx hb dX10_earnest_2 (by decide) ?_
  refine lv_bipush (v := 6) hx hb dX10_earnest_3 (by decide) ?_
  refine he_ci (wc := []) (wr := [(oX10 x0 y0 ta z0 p0 dr pa to_ s0 im ki tr v0 rf), (oX6 p0 p1 p2 p3 p4 (nI w)), (aI g p3 6 st), (oX1 v0 v1 v2 v3 ww dg), (aI g v1 3 wo), (aI g v2 3 he_), (aI g v3 3 pf)]) (va_runS (As := [.int (nI a), .int 0, .int 6]) (rest := [.ref x0]) ⟨hx, hb, hml, hown, hts⟩ (c_X10_within l g (nI a) 0 6 H.size) (va_cwS 3 hts gX10_earnest_X10_within rfl rfl rfl (by decide +kernel) ⟨Nat.le_of_ble_eq_true rfl, Nat.le_of_ble_eq_true rfl⟩) (he_preS (wc := []) hK hP hD hS hA hE [] rfl rfl) rfl rfl hl.1 rfl (lv_room (Nat.le_of_ble_eq_true rfl)) dX10_earnest_5 ⟨(Nat.le_of_ble_eq_true rfl), (Nat.le_of_ble_eq_true rfl)⟩) hP hD hS hA [] [0, 1, 2, 3, 4, 5, 6] rfl rfl rfl (by decide) (fun r_1 u_2 H locs h_3 hP hD hS => ?_)
  subst h_3
  have hP : va_P g.1 vwCl [(oX10 x0 y0 ta z0 p0 dr pa to_ s0 im ki tr v0 rf), (oX6 p0 p1 p2 p3 p4 (nI w)), (aI g p3 6 st), (oX1 v0 v1 v2 v3 ww dg), (aI g v1 3 wo), (aI g v2 3 he_), (aI g v3 3 pf)] H := hP
  have hD : va_D A [(oX10 x0 y0 ta z0 p0 dr pa to_ s0 im ki tr v0 rf), (oX6 p0 p1 p2 p3 p4 (nI w)), (aI g p3 6 st), (oX1 v0 v1 v2 v3 ww dg), (aI g v1 3 wo), (aI g v2 3 he_), (aI g v3 3 pf)] := hD
  refine he_top (1) (he_within_in (a0 := 0) (B := 6) rfl rfl (by omega) (by omega) (by decide)) ?_
  refine lv_if_eq (tgt := 34) hx hb dX10_earnest_8 (by decide) (fun c_4 => ?_) (fun c_4 => ?_)
  · exact absurd c_4 (by decide)
  · refine lv_iload_n hx hb dX10_earnest_11 rfl (lv_at hl 2 rfl) ?_
    refine lv_iconst (v := 0) hx hb dX10_earnest_12 (by decide) ?_
    refine lv_bipush (v := 6) hx hb dX10_earnest_13 (by decide) ?_
    refine he_ci (wc := []) (wr := [(oX10 x0 y0 ta z0 p0 dr pa to_ s0 im ki tr v0 rf), (oX6 p0 p1 p2 p3 p4 (nI w)), (aI g p3 6 st), (oX1 v0 v1 v2 v3 ww dg), (aI g v1 3 wo), (aI g v2 3 he_), (aI g v3 3 pf)]) (va_runS (As := [.int (nI d), .int 0, .int 6]) (rest := [.ref x0]) ⟨hx, hb, hml, hown, hts⟩ (c_X10_within l g (nI d) 0 6 H.size) (va_cwS 3 hts gX10_earnest_X10_within rfl rfl rfl (by decide +kernel) ⟨Nat.le_of_ble_eq_true rfl, Nat.le_of_ble_eq_true rfl⟩) (he_preS (wc := []) hK hP hD hS hA hE [] rfl rfl) rfl rfl hl.1 rfl (lv_room (Nat.le_of_ble_eq_true rfl)) dX10_earnest_15 ⟨(Nat.le_of_ble_eq_true rfl), (Nat.le_of_ble_eq_true rfl)⟩) hP hD hS hA [] [0, 1, 2, 3, 4, 5, 6] rfl rfl rfl (by decide) (fun r_5 u_6 H locs h_7 hP hD hS => ?_)
    subst h_7
    have hP : va_P g.1 vwCl [(oX10 x0 y0 ta z0 p0 dr pa to_ s0 im ki tr v0 rf), (oX6 p0 p1 p2 p3 p4 (nI w)), (aI g p3 6 st), (oX1 v0 v1 v2 v3 ww dg), (aI g v1 3 wo), (aI g v2 3 he_), (aI g v3 3 pf)] H := hP
    have hD : va_D A [(oX10 x0 y0 ta z0 p0 dr pa to_ s0 im ki tr v0 rf), (oX6 p0 p1 p2 p3 p4 (nI w)), (aI g p3 6 st), (oX1 v0 v1 v2 v3 ww dg), (aI g v1 3 wo), (aI g v2 3 he_), (aI g v3 3 pf)] := hD
    refine he_top (1) (he_within_in (a0 := 0) (B := 6) rfl rfl (by omega) (by omega) (by decide)) ?_
    refine lv_if_eq (tgt := 34) hx hb dX10_earnest_18 (by decide) (fun c_8 => ?_) (fun c_8 => ?_)
    · exact absurd c_8 (by decide)
    · refine lv_iload_n hx hb dX10_earnest_21 rfl (lv_at hl 3 rfl) ?_
      refine lv_iconst (v := 0) hx hb dX10_earnest_22 (by decide) ?_
      refine lv_iconst (v := 1) hx hb dX10_earnest_23 (by decide) ?_
      refine he_ci (wc := []) (wr := [(oX10 x0 y0 ta z0 p0 dr pa to_ s0 im ki tr v0 rf), (oX6 p0 p1 p2 p3 p4 (nI w)), (aI g p3 6 st), (oX1 v0 v1 v2 v3 ww dg), (aI g v1 3 wo), (aI g v2 3 he_), (aI g v3 3 pf)]) (va_runS (As := [.int 0, .int 0, .int 1]) (rest := [.ref x0]) ⟨hx, hb, hml, hown, hts⟩ (c_X10_within l g 0 0 1 H.size) (va_cwS 3 hts gX10_earnest_X10_within rfl rfl rfl (by decide +kernel) ⟨Nat.le_of_ble_eq_true rfl, Nat.le_of_ble_eq_true rfl⟩) (he_preS (wc := []) hK hP hD hS hA hE [] rfl rfl) rfl rfl hl.1 rfl (lv_room (Nat.le_of_ble_eq_true rfl)) dX10_earnest_24 ⟨(Nat.le_of_ble_eq_true rfl), (Nat.le_of_ble_eq_true rfl)⟩) hP hD hS hA [] [0, 1, 2, 3, 4, 5, 6] rfl rfl rfl (by decide) (fun r_9 u_10 H locs h_11 hP hD hS => ?_)
      subst h_11
      have hP : va_P g.1 vwCl [(oX10 x0 y0 ta z0 p0 dr pa to_ s0 im ki tr v0 rf), (oX6 p0 p1 p2 p3 p4 (nI w)), (aI g p3 6 st), (oX1 v0 v1 v2 v3 ww dg), (aI g v1 3 wo), (aI g v2 3 he_), (aI g v3 3 pf)] H := hP
      have hD : va_D A [(oX10 x0 y0 ta z0 p0 dr pa to_ s0 im ki tr v0 rf), (oX6 p0 p1 p2 p3 p4 (nI w)), (aI g p3 6 st), (oX1 v0 v1 v2 v3 ww dg), (aI g v1 3 wo), (aI g v2 3 he_), (aI g v3 3 pf)] := hD
      refine he_top (1) (by decide) ?_
      refine lv_if_eq (tgt := 34) hx hb dX10_earnest_27 (by decide) (fun c_12 => ?_) (fun c_12 => ?_)
      · exact absurd c_12 (by decide)
      · refine lv_iconst (v := 1) hx hb dX10_earnest_30 (by decide) ?_
        refine lv_goto (tgt := 35) hx hb dX10_earnest_31 (by decide) ?_
        refine he_cv (wc := []) (wr := [(oX10 x0 y0 ta z0 p0 dr pa to_ s0 im ki tr v0 rf), (oX6 p0 p1 p2 p3 p4 (nI w)), (aI g p3 6 st), (oX1 v0 v1 v2 v3 ww dg), (aI g v1 3 wo), (aI g v2 3 he_), (aI g v3 3 pf)]) (va_runV (As := [.int 1]) (rest := []) ⟨hx, hb, hml, hown, hts⟩ (c_X10_demand1 l g x0 H.size) (cwV 1 hts gX10_earnest_X10_demand rfl rfl rfl (by decide +kernel) ⟨Nat.le_of_ble_eq_true rfl, Nat.le_of_ble_eq_true rfl⟩) (he_preV (wc := []) hK hP hD hS hA hE [] rfl rfl 0 rfl rfl) rfl rfl hl.1 rfl (lv_room (Nat.le_of_ble_eq_true rfl)) dX10_earnest_35 ⟨(Nat.le_of_ble_eq_true rfl), (Nat.le_of_ble_eq_true rfl)⟩) hP hD hS hA [] [0, 1, 2, 3, 4, 5, 6] rfl rfl rfl (by decide) (fun u_14 H locs h_15 hP hD hS => ?_)
        have hP : va_P g.1 vwCl [(oX10 x0 y0 ta z0 p0 dr pa to_ s0 im ki tr v0 rf), (oX6 p0 p1 p2 p3 p4 (nI w)), (aI g p3 6 st), (oX1 v0 v1 v2 v3 ww dg), (aI g v1 3 wo), (aI g v2 3 he_), (aI g v3 3 pf)] H := hP
        have hD : va_D A [(oX10 x0 y0 ta z0 p0 dr pa to_ s0 im ki tr v0 rf), (oX6 p0 p1 p2 p3 p4 (nI w)), (aI g p3 6 st), (oX1 v0 v1 v2 v3 ww dg), (aI g v1 3 wo), (aI g v2 3 he_), (aI g v3 3 pf)] := hD
        refine lv_aload_n hx hb dX10_earnest_38 rfl (lv_at hl 0 rfl) ?_
        refine va_get (v := .ref v0) (T := TX10) (N := 13) hx hb hts inX10 hown hK hP 0 rfl rfl 11 (by decide) f57 (fun _ h9 => h9) rfl dX10_earnest_39 ?_
        refine lv_aload_n hx hb dX10_earnest_42 rfl (lv_at hl 0 rfl) ?_
        refine va_get (v := .ref p0) (T := TX10) (N := 13) hx hb hts inX10 hown hK hP 0 rfl rfl 3 (by decide) f23 (fun _ h9 => h9) rfl dX10_earnest_43 ?_
        refine he_cv (wc := [(oX1 v0 v1 v2 v3 ww dg), (aI g v1 3 wo), (aI g v2 3 he_), (aI g v3 3 pf), (oX6 p0 p1 p2 p3 p4 (nI w)), (aI g p3 6 st)]) (wr := [(oX10 x0 y0 ta z0 p0 dr pa to_ s0 im ki tr v0 rf)]) (va_runV (As := [.ref p0]) (rest := []) ⟨hx, hb, hml, hown, hts⟩ (s_X1_prepare l g v0 v1 v2 v3 ww dg wo he_ pf p0 p1 p2 p3 p4 w st Wr (by first | assumption | decide | omega) (by first | assumption | decide | omega) (by first | assumption | decide | omega) H.size) (cwV 1 hts gX10_earnest_X1_prepare rfl rfl rfl (by decide +kernel) ⟨Nat.le_of_ble_eq_true rfl, Nat.le_of_ble_eq_true rfl⟩) (he_preV (wc := [(oX1 v0 v1 v2 v3 ww dg), (aI g v1 3 wo), (aI g v2 3 he_), (aI g v3 3 pf), (oX6 p0 p1 p2 p3 p4 (nI w)), (aI g p3 6 st)]) hK hP hD hS hA hE [3, 4, 5, 6, 1, 2] rfl rfl 3 rfl rfl) rfl rfl hl.1 rfl (lv_room (Nat.le_of_ble_eq_true rfl)) dX10_earnest_46 ⟨(Nat.le_of_ble_eq_true rfl), (Nat.le_of_ble_eq_true rfl)⟩) hP hD hS hA [3, 4, 5, 6, 1, 2] [0] rfl rfl rfl (by decide) (fun u_17 H locs h_18 hP hD hS => ?_)
        obtain ⟨uo_19, uh_20⟩ := u_17
        try dsimp only at h_18
        have hf_21 := h_18
        have hP : va_P g.1 vwCl [(oX10 x0 y0 ta z0 p0 dr pa to_ s0 im ki tr v0 rf), (oX1 v0 v1 v2 v3 (nI (if 3 < w then 3 else w)) dg), (aI g v1 3 uo_19), (aI g v2 3 uh_20), (aI g v3 3 pf), (oX6 p0 p1 p2 p3 p4 (nI w)), (aI g p3 6 st)] H := hP
        have hD : va_D A [(oX10 x0 y0 ta z0 p0 dr pa to_ s0 im ki tr v0 rf), (oX1 v0 v1 v2 v3 (nI (if 3 < w then 3 else w)) dg), (aI g v1 3 uo_19), (aI g v2 3 uh_20), (aI g v3 3 pf), (oX6 p0 p1 p2 p3 p4 (nI w)), (aI g p3 6 st)] := hD
        have hv9 := v3_le w
        have h79 := all_7 hv9
        refine lv_iload_n hx hb dX10_earnest_49 rfl (lv_at hl 3 rfl) ?_
        refine lv_if_ne (tgt := 72) hx hb dX10_earnest_50 (by decide) (fun c_22 => ?_) (fun c_22 => ?_)
        · exact absurd (by decide) c_22
        · refine lv_aload_n hx hb dX10_earnest_53 rfl (lv_at hl 0 rfl) ?_
          refine va_get (v := .ref v0) (T := TX10) (N := 13) hx hb hts inX10 hown hK hP 0 rfl rfl 11 (by decide) f57 (fun _ h9 => h9) rfl dX10_earnest_54 ?_
          refine lv_aload_n hx hb dX10_earnest_57 rfl (lv_at hl 0 rfl) ?_
          refine va_get (v := .ref v0) (T := TX10) (N := 13) hx hb hts inX10 hown hK hP 0 rfl rfl 11 (by decide) f57 (fun _ h9 => h9) rfl dX10_earnest_58 ?_
          refine he_ci (wc := [(oX1 v0 v1 v2 v3 (nI (if 3 < w then 3 else w)) dg), (aI g v1 3 uo_19), (aI g v2 3 uh_20), (aI g v3 3 pf)]) (wr := [(oX10 x0 y0 ta z0 p0 dr pa to_ s0 im ki tr v0 rf), (oX6 p0 p1 p2 p3 p4 (nI w)), (aI g p3 6 st)]) (va_runV (As := []) (rest := [.ref v0]) ⟨hx, hb, hml, hown, hts⟩ (g_X1_all l g v0 v1 v2 v3 (if 3 < w then 3 else w) dg uo_19 uh_20 pf (by first | assumption | decide | omega) H.size) (cwV 0 hts gX10_earnest_X1_all rfl rfl rfl (by decide +kernel) ⟨Nat.le_of_ble_eq_true rfl, Nat.le_of_ble_eq_true rfl⟩) (he_preV (wc := [(oX1 v0 v1 v2 v3 (nI (if 3 < w then 3 else w)) dg), (aI g v1 3 uo_19), (aI g v2 3 uh_20), (aI g v3 3 pf)]) hK hP hD hS hA hE [1, 2, 3, 4] rfl rfl 1 rfl rfl) rfl rfl hl.1 rfl (lv_room (Nat.le_of_ble_eq_true rfl)) dX10_earnest_61 ⟨(Nat.le_of_ble_eq_true rfl), (Nat.le_of_ble_eq_true rfl)⟩) hP hD hS hA [1, 2, 3, 4] [0, 5, 6] rfl rfl rfl (by decide) (fun r_23 u_24 H locs h_25 hP hD hS => ?_)
          subst h_25
          have hP : va_P g.1 vwCl [(oX10 x0 y0 ta z0 p0 dr pa to_ s0 im ki tr v0 rf), (oX6 p0 p1 p2 p3 p4 (nI w)), (aI g p3 6 st), (oX1 v0 v1 v2 v3 (nI (if 3 < w then 3 else w)) dg), (aI g v1 3 uo_19), (aI g v2 3 uh_20), (aI g v3 3 pf)] H := hP
          have hD : va_D A [(oX10 x0 y0 ta z0 p0 dr pa to_ s0 im ki tr v0 rf), (oX6 p0 p1 p2 p3 p4 (nI w)), (aI g p3 6 st), (oX1 v0 v1 v2 v3 (nI (if 3 < w then 3 else w)) dg), (aI g v1 3 uo_19), (aI g v2 3 uh_20), (aI g v3 3 pf)] := hD
          refine lv_iload_n hx hb dX10_earnest_64 rfl (lv_at hl 1 rfl) ?_
          refine lv_iload_n hx hb dX10_earnest_65 rfl (lv_at hl 2 rfl) ?_
          refine he_ci (wc := [(oX1 v0 v1 v2 v3 (nI (if 3 < w then 3 else w)) dg), (aI g v1 3 uo_19), (aI g v2 3 uh_20), (aI g v3 3 pf)]) (wr := [(oX10 x0 y0 ta z0 p0 dr pa to_ s0 im ki tr v0 rf), (oX6 p0 p1 p2 p3 p4 (nI w)), (aI g p3 6 st)]) (va_runV (As := [.int (nI (allN (if 3 < w then 3 else w))), .int (nI a), .int (nI d)]) (rest := []) ⟨hx, hb, hml, hown, hts⟩ (s_X1_safe l g v0 v1 v2 v3 (if 3 < w then 3 else w) dg uo_19 uh_20 pf Wr (allN (if 3 < w then 3 else w)) a d hv9 (by omega) (by first | assumption | decide | omega) (by first | assumption | decide | omega) (fun k9 h9 h8 => hf_21 k9 (bt_all _ (v3_le w) k9 h9 h8)) (by first | assumption | decide | omega) H.size) (cwV 3 hts gX10_earnest_X1_safe rfl rfl rfl (by decide +kernel) ⟨Nat.le_of_ble_eq_true rfl, Nat.le_of_ble_eq_true rfl⟩) (he_preV (wc := [(oX1 v0 v1 v2 v3 (nI (if 3 < w then 3 else w)) dg), (aI g v1 3 uo_19), (aI g v2 3 uh_20), (aI g v3 3 pf)]) hK hP hD hS hA hE [3, 4, 5, 6] rfl rfl 3 rfl rfl) rfl rfl hl.1 rfl (lv_room (Nat.le_of_ble_eq_true rfl)) dX10_earnest_66 ⟨(Nat.le_of_ble_eq_true rfl), (Nat.le_of_ble_eq_true rfl)⟩) hP hD hS hA [3, 4, 5, 6] [0, 1, 2] rfl rfl rfl (by decide) (fun r_26 u_27 H locs h_28 hP hD hS => ?_)
          obtain ⟨ud_29, uf_30⟩ := u_27
          try dsimp only at h_28
          obtain ⟨rfl, hf_31⟩ := h_28
          have hP : va_P g.1 vwCl [(oX10 x0 y0 ta z0 p0 dr pa to_ s0 im ki tr v0 rf), (oX6 p0 p1 p2 p3 p4 (nI w)), (aI g p3 6 st), (oX1 v0 v1 v2 v3 (nI (if 3 < w then 3 else w)) ud_29), (aI g v1 3 uo_19), (aI g v2 3 uh_20), (aI g v3 3 uf_30)] H := hP
          have hD : va_D A [(oX10 x0 y0 ta z0 p0 dr pa to_ s0 im ki tr v0 rf), (oX6 p0 p1 p2 p3 p4 (nI w)), (aI g p3 6 st), (oX1 v0 v1 v2 v3 (nI (if 3 < w then 3 else w)) ud_29), (aI g v1 3 uo_19), (aI g v2 3 uh_20), (aI g v3 3 uf_30)] := hD
          refine lv_goto (tgt := 81) hx hb dX10_earnest_69 (by decide) ?_
          exact he_ri hQ hx hb hr hlk hP hD hS dX10_earnest_81 (Nat.le_of_ble_eq_true rfl) (Nat.le_of_ble_eq_true rfl) ((ud_29, uo_19, uh_20, uf_30)) (rfl) (rfl)
set_option maxHeartbeats 4000000 in
set_option maxRecDepth 100000 in
theorem s_X10_earnest1 (l : Launch) (g : he_G) (x0 : Nat) (y0 : Nat) (z0 : Nat) (dr : Nat) (pa : Nat) (s0 : Nat) (im : Nat) (tr : Nat) (v0 : Nat) (rf : Nat) (ta : Int32) (to_ : Int32) (ki : Int32) (p0 : Nat) (p1 : Nat) (p2 : Nat) (p3 : Nat) (p4 : Nat) (w : Nat) (st : Nat → Int32) (v1 : Nat) (v2 : Nat) (v3 : Nat) (ww : Int32) (dg : Int32) (wo : Nat → Int32) (he_ : Nat → Int32) (pf : Nat → Int32) (a : Nat) (d : Nat) (Wr : Nat → Nat) (hw6 : w ≤ 6) (ha6 : a ≤ 6) (hd6 : d ≤ 6) (hst : ∀ k, k < w → st k = nI (Wr k)) (hW9 : ∀ k, Wr k ≤ 99) : he_I l yX10_earnest wsX10_earnest 4 85 0 0 g [.ref x0, .int (nI a), .int (nI d), .int 1] [(oX10 x0 y0 ta z0 p0 dr pa to_ s0 im ki tr v0 rf), (oX6 p0 p1 p2 p3 p4 (nI w)), (aI g p3 6 st), (oX1 v0 v1 v2 v3 ww dg), (aI g v1 3 wo), (aI g v2 3 he_), (aI g v3 3 pf)] (fun (r : Int32) (u : Int32 × (Nat → Int32) × (Nat → Int32) × (Nat → Int32)) => r = nI (moC Wr (allN (if 3 < w then 3 else w)) a d)) (fun (u : Int32 × (Nat → Int32) × (Nat → Int32) × (Nat → Int32)) => [(oX10 x0 y0 ta z0 p0 dr pa to_ s0 im ki tr v0 rf), (oX6 p0 p1 p2 p3 p4 (nI w)), (aI g p3 6 st), (oX1 v0 v1 v2 v3 (nI (if 3 < w then 3 else w)) u.1), (aI g v1 3 u.2.1), (aI g v2 3 u.2.2.1), (aI g v3 3 u.2.2.2)]) := by
  refine he_begin (l := l) (g := g) (y := yX10_earnest) (wl := wsX10_earnest) (fr := 4) (lo := 85) (mc := 0) (ms := 0) (av := [.ref x0, .int (nI a), .int (nI d), .int 1]) (ws := [(oX10 x0 y0 ta z0 p0 dr pa to_ s0 im ki tr v0 rf), (oX6 p0 p1 p2 p3 p4 (nI w)), (aI g p3 6 st), (oX1 v0 v1 v2 v3 ww dg), (aI g v1 3 wo), (aI g v2 3 he_), (aI g v3 3 pf)]) (cc := cX10_earnest) (maxL := 4) (ret := (some .int)) (fun A => va_Qi (fun (r : Int32) (u : Int32 × (Nat → Int32) × (Nat → Int32) × (Nat → Int32)) => r = nI (moC Wr (allN (if 3 < w then 3 else w)) a d)) (fun u t => he_post g A ((fun (u : Int32 × (Nat → Int32) × (Nat → Int32) × (Nat → Int32)) => [(oX10 x0 y0 ta z0 p0 dr pa to_ s0 im ki tr v0 rf), (oX6 p0 p1 p2 p3 p4 (nI w)), (aI g p3 6 st), (oX1 v0 v1 v2 v3 (nI (if 3 < w then 3 else w)) u.1), (aI g v1 3 u.2.1), (aI g v2 3 u.2.2.1), (aI g v3 3 u.2.2.2)]) u) t) A) (by decide) rfl (Nat.le_of_ble_eq_true rfl) ?_
  intro p e s m args below meth c A ls H locs Q hQ hB
  obtain ⟨hx, hb, hr, hml, hown, hts, hlk, hin, hP, hK, hD, hS, hA, hE, hl⟩ := hB
  have hl : lv_has ls 4 [(0, .ref x0), (1, .int (nI a)), (2, .int (nI d)), (3, .int 1)] := hl
  have f57 := hts (.fieldLink RX10 57 "HiredEnemy" "battle" "LHiredEnemy$Battle;") (iwoX10_earnest (k := 0) rfl)
  have inX10 : ∀ w ∈ wsX100, w ∈ wsX10_earnest := innX10_earnest_X10
  have f23 := hts (.fieldLink RX10 23 "HiredEnemy" "plan" "LHiredEnemy$Plan;") (iwoX10_earnest (k := 1) rfl)
  refine lv_aload_n hx hb dX10_earnest_0 rfl (lv_at hl 0 rfl) ?_
  refine lv_iload_n hx hb dX10_earnest_1 rfl (lv_at hl 1 rfl) ?_
  refine lv_iconst (v := 0) hx hb dX10_earnest_2 (by decide) ?_
  refine lv_bipush (v := 6) hx hb dX10_earnest_3 (by decide) ?_
  refine he_ci (wc := []) (wr := [(oX10 x0 y0 ta z0 p0 dr pa to_ s0 im ki tr v0 rf), (oX6 p0 p1 p2 p3 p4 (nI w)), (aI g p3 6 st), (oX1 v0 v1 v2 v3 ww dg), (aI g v1 3 wo), (aI g v2 3 he_), (aI g v3 3 pf)]) (va_runS (As := [.int (nI a), .int 0, .int 6]) (rest := [.ref x0]) ⟨hx, hb, hml, hown, hts⟩ (c_X10_within l g (nI a) 0 6 H.size) (va_cwS 3 hts gX10_earnest_X10_within rfl rfl rfl (by decide +kernel) ⟨Nat.le_of_ble_eq_true rfl, Nat.le_of_ble_eq_true rfl⟩) (he_preS (wc := []) hK hP hD hS hA hE [] rfl rfl) rfl rfl hl.1 rfl (lv_room (Nat.le_of_ble_eq_true rfl)) dX10_earnest_5 ⟨(Nat.le_of_ble_eq_true rfl), (Nat.le_of_ble_eq_true rfl)⟩) hP hD hS hA [] [0, 1, 2, 3, 4, 5, 6] rfl rfl rfl (by decide) (fun r_1 u_2 H locs h_3 hP hD hS => ?_)
  subst h_3
  have hP : va_P g.1 vwCl [(oX10 x0 y0 ta z0 p0 dr pa to_ s0 im ki tr v0 rf), (oX6 p0 p1 p2 p3 p4 (nI w)), (aI g p3 6 st), (oX1 v0 v1 v2 v3 ww dg), (aI g v1 3 wo), (aI g v2 3 he_), (aI g v3 3 pf)] H := hP
  have hD : va_D A [(oX10 x0 y0 ta z0 p0 dr pa to_ s0 im ki tr v0 rf), (oX6 p0 p1 p2 p3 p4 (nI w)), (aI g p3 6 st), (oX1 v0 v1 v2 v3 ww dg), (aI g v1 3 wo), (aI g v2 3 he_), (aI g v3 3 pf)] := hD
  refine he_top (1) (he_within_in (a0 := 0) (B := 6) rfl rfl (by omega) (by omega) (by decide)) ?_
  refine lv_if_eq (tgt := 34) hx hb dX10_earnest_8 (by decide) (fun c_4 => ?_) (fun c_4 => ?_)
  · exact absurd c_4 (by decide)
  · refine lv_iload_n hx hb dX10_earnest_11 rfl (lv_at hl 2 rfl) ?_
    refine lv_iconst (v := 0) hx hb dX10_earnest_12 (by decide) ?_
    refine lv_bipush (v := 6) hx hb dX10_earnest_13 (by decide) ?_
    refine he_ci (wc := []) (wr := [(oX10 x0 y0 ta z0 p0 dr pa to_ s0 im ki tr v0 rf), (oX6 p0 p1 p2 p3 p4 (nI w)), (aI g p3 6 st), (oX1 v0 v1 v2 v3 ww dg), (aI g v1 3 wo), (aI g v2 3 he_), (aI g v3 3 pf)]) (va_runS (As := [.int (nI d), .int 0, .int 6]) (rest := [.ref x0]) ⟨hx, hb, hml, hown, hts⟩ (c_X10_within l g (nI d) 0 6 H.size) (va_cwS 3 hts gX10_earnest_X10_within rfl rfl rfl (by decide +kernel) ⟨Nat.le_of_ble_eq_true rfl, Nat.le_of_ble_eq_true rfl⟩) (he_preS (wc := []) hK hP hD hS hA hE [] rfl rfl) rfl rfl hl.1 rfl (lv_room (Nat.le_of_ble_eq_true rfl)) dX10_earnest_15 ⟨(Nat.le_of_ble_eq_true rfl), (Nat.le_of_ble_eq_true rfl)⟩) hP hD hS hA [] [0, 1, 2, 3, 4, 5, 6] rfl rfl rfl (by decide) (fun r_5 u_6 H locs h_7 hP hD hS => ?_)
    subst h_7
    have hP : va_P g.1 vwCl [(oX10 x0 y0 ta z0 p0 dr pa to_ s0 im ki tr v0 rf), (oX6 p0 p1 p2 p3 p4 (nI w)), (aI g p3 6 st), (oX1 v0 v1 v2 v3 ww dg), (aI g v1 3 wo), (aI g v2 3 he_), (aI g v3 3 pf)] H := hP
    have hD : va_D A [(oX10 x0 y0 ta z0 p0 dr pa to_ s0 im ki tr v0 rf), (oX6 p0 p1 p2 p3 p4 (nI w)), (aI g p3 6 st), (oX1 v0 v1 v2 v3 ww dg), (aI g v1 3 wo), (aI g v2 3 he_), (aI g v3 3 pf)] := hD
    refine he_top (1) (he_within_in (a0 := 0) (B := 6) rfl rfl (by omega) (by omega) (by decide)) ?_
    refine lv_if_eq (tgt := 34) hx hb dX10_earnest_18 (by decide) (fun c_8 => ?_) (fun c_8 => ?_)
    · exact absurd c_8 (by decide)
    · refine lv_iload_n hx hb dX10_earnest_21 rfl (lv_at hl 3 rfl) ?_
      refine lv_iconst (v := 0) hx hb dX10_earnest_22 (by decide) ?_
      refine lv_iconst (v := 1) hx hb dX10_earnest_23 (by decide) ?_
      refine he_ci (wc := []) (wr := [(oX10 x0 y0 ta z0 p0 dr pa to_ s0 im ki tr v0 rf), (oX6 p0 p1 p2 p3 p4 (nI w)), (aI g p3 6 st), (oX1 v0 v1 v2 v3 ww dg), (aI g v1 3 wo), (aI g v2 3 he_), (aI g v3 3 pf)]) (va_runS (As := [.int 1, .int 0, .int 1]) (rest := [.ref x0]) ⟨hx, hb, hml, hown, hts⟩ (c_X10_within l g 1 0 1 H.size) (va_cwS 3 hts gX10_earnest_X10_within rfl rfl rfl (by decide +kernel) ⟨Nat.le_of_ble_eq_true rfl, Nat.le_of_ble_eq_true rfl⟩) (he_preS (wc := []) hK hP hD hS hA hE [] rfl rfl) rfl rfl hl.1 rfl (lv_room (Nat.le_of_ble_eq_true rfl)) dX10_earnest_24 ⟨(Nat.le_of_ble_eq_true rfl), (Nat.le_of_ble_eq_true rfl)⟩) hP hD hS hA [] [0, 1, 2, 3, 4, 5, 6] rfl rfl rfl (by decide) (fun r_9 u_10 H locs h_11 hP hD hS => ?_)
      subst h_11
      have hP : va_P g.1 vwCl [(oX10 x0 y0 ta z0 p0 dr pa to_ s0 im ki tr v0 rf), (oX6 p0 p1 p2 p3 p4 (nI w)), (aI g p3 6 st), (oX1 v0 v1 v2 v3 ww dg), (aI g v1 3 wo), (aI g v2 3 he_), (aI g v3 3 pf)] H := hP
      have hD : va_D A [(oX10 x0 y0 ta z0 p0 dr pa to_ s0 im ki tr v0 rf), (oX6 p0 p1 p2 p3 p4 (nI w)), (aI g p3 6 st), (oX1 v0 v1 v2 v3 ww dg), (aI g v1 3 wo), (aI g v2 3 he_), (aI g v3 3 pf)] := hD
      refine he_top (1) (by decide) ?_
      refine lv_if_eq (tgt := 34) hx hb dX10_earnest_27 (by decide) (fun c_12 => ?_) (fun c_12 => ?_)
      · exact absurd c_12 (by decide)
      · refine lv_iconst (v := 1) hx hb dX10_earnest_30 (by decide) ?_
        refine lv_goto (tgt := 35) hx hb dX10_earnest_31 (by decide) ?_
        refine he_cv (wc := []) (wr := [(oX10 x0 y0 ta z0 p0 dr pa to_ s0 im ki tr v0 rf), (oX6 p0 p1 p2 p3 p4 (nI w)), (aI g p3 6 st), (oX1 v0 v1 v2 v3 ww dg), (aI g v1 3 wo), (aI g v2 3 he_), (aI g v3 3 pf)]) (va_runV (As := [.int 1]) (rest := []) ⟨hx, hb, hml, hown, hts⟩ (c_X10_demand1 l g x0 H.size) (cwV 1 hts gX10_earnest_X10_demand rfl rfl rfl (by decide +kernel) ⟨Nat.le_of_ble_eq_true rfl, Nat.le_of_ble_eq_true rfl⟩) (he_preV (wc := []) hK hP hD hS hA hE [] rfl rfl 0 rfl rfl) rfl rfl hl.1 rfl (lv_room (Nat.le_of_ble_eq_true rfl)) dX10_earnest_35 ⟨(Nat.le_of_ble_eq_true rfl), (Nat.le_of_ble_eq_true rfl)⟩) hP hD hS hA [] [0, 1, 2, 3, 4, 5, 6] rfl rfl rfl (by decide) (fun u_14 H locs h_15 hP hD hS => ?_)
        have hP : va_P g.1 vwCl [(oX10 x0 y0 ta z0 p0 dr pa to_ s0 im ki tr v0 rf), (oX6 p0 p1 p2 p3 p4 (nI w)), (aI g p3 6 st), (oX1 v0 v1 v2 v3 ww dg), (aI g v1 3 wo), (aI g v2 3 he_), (aI g v3 3 pf)] H := hP
        have hD : va_D A [(oX10 x0 y0 ta z0 p0 dr pa to_ s0 im ki tr v0 rf), (oX6 p0 p1 p2 p3 p4 (nI w)), (aI g p3 6 st), (oX1 v0 v1 v2 v3 ww dg), (aI g v1 3 wo), (aI g v2 3 he_), (aI g v3 3 pf)] := hD
        refine lv_aload_n hx hb dX10_earnest_38 rfl (lv_at hl 0 rfl) ?_
        refine va_get (v := .ref v0) (T := TX10) (N := 13) hx hb hts inX10 hown hK hP 0 rfl rfl 11 (by decide) f57 (fun _ h9 => h9) rfl dX10_earnest_39 ?_
        refine lv_aload_n hx hb dX10_earnest_42 rfl (lv_at hl 0 rfl) ?_
        refine va_get (v := .ref p0) (T := TX10) (N := 13) hx hb hts inX10 hown hK hP 0 rfl rfl 3 (by decide) f23 (fun _ h9 => h9) rfl dX10_earnest_43 ?_
        refine he_cv (wc := [(oX1 v0 v1 v2 v3 ww dg), (aI g v1 3 wo), (aI g v2 3 he_), (aI g v3 3 pf), (oX6 p0 p1 p2 p3 p4 (nI w)), (aI g p3 6 st)]) (wr := [(oX10 x0 y0 ta z0 p0 dr pa to_ s0 im ki tr v0 rf)]) (va_runV (As := [.ref p0]) (rest := []) ⟨hx, hb, hml, hown, hts⟩ (s_X1_prepare l g v0 v1 v2 v3 ww dg wo he_ pf p0 p1 p2 p3 p4 w st Wr (by first | assumption | decide | omega) (by first | assumption | decide | omega) (by first | assumption | decide | omega) H.size) (cwV 1 hts gX10_earnest_X1_prepare rfl rfl rfl (by decide +kernel) ⟨Nat.le_of_ble_eq_true rfl, Nat.le_of_ble_eq_true rfl⟩) (he_preV (wc := [(oX1 v0 v1 v2 v3 ww dg), (aI g v1 3 wo), (aI g v2 3 he_), (aI g v3 3 pf), (oX6 p0 p1 p2 p3 p4 (nI w)), (aI g p3 6 st)]) hK hP hD hS hA hE [3, 4, 5, 6, 1, 2] rfl rfl 3 rfl rfl) rfl rfl hl.1 rfl (lv_room (Nat.le_of_ble_eq_true rfl)) dX10_earnest_46 ⟨(Nat.le_of_ble_eq_true rfl), (Nat.le_of_ble_eq_true rfl)⟩) hP hD hS hA [3, 4, 5, 6, 1, 2] [0] rfl rfl rfl (by decide) (fun u_17 H locs h_18 hP hD hS => ?_)
        obtain ⟨uo_19, uh_20⟩ := u_17
        try dsimp only at h_18
        have hf_21 := h_18
        have hP : va_P g.1 vwCl [(oX10 x0 y0 ta z0 p0 dr pa to_ s0 im ki tr v0 rf), (oX1 v0 v1 v2 v3 (nI (if 3 < w then 3 else w)) dg), (aI g v1 3 uo_19), (aI g v2 3 uh_20), (aI g v3 3 pf), (oX6 p0 p1 p2 p3 p4 (nI w)), (aI g p3 6 st)] H := hP
        have hD : va_D A [(oX10 x0 y0 ta z0 p0 dr pa to_ s0 im ki tr v0 rf), (oX1 v0 v1 v2 v3 (nI (if 3 < w then 3 else w)) dg), (aI g v1 3 uo_19), (aI g v2 3 uh_20), (aI g v3 3 pf), (oX6 p0 p1 p2 p3 p4 (nI w)), (aI g p3 6 st)] := hD
        have hv9 := v3_le w
        have h79 := all_7 hv9
        refine lv_iload_n hx hb dX10_earnest_49 rfl (lv_at hl 3 rfl) ?_
        refine lv_if_ne (tgt := 72) hx hb dX10_earnest_50 (by decide) (fun c_22 => ?_) (fun c_22 => ?_)
        · refine lv_aload_n hx hb dX10_earnest_72 rfl (lv_at hl 0 rfl) ?_
          refine va_get (v := .ref v0) (T := TX10) (N := 13) hx hb hts inX10 hown hK hP 0 rfl rfl 11 (by decide) f57 (fun _ h9 => h9) rfl dX10_earnest_73 ?_
          refine lv_iload_n hx hb dX10_earnest_76 rfl (lv_at hl 1 rfl) ?_
          refine lv_iload_n hx hb dX10_earnest_77 rfl (lv_at hl 2 rfl) ?_
          refine he_ci (wc := [(oX1 v0 v1 v2 v3 (nI (if 3 < w then 3 else w)) dg), (aI g v1 3 uo_19), (aI g v2 3 uh_20), (aI g v3 3 pf)]) (wr := [(oX10 x0 y0 ta z0 p0 dr pa to_ s0 im ki tr v0 rf), (oX6 p0 p1 p2 p3 p4 (nI w)), (aI g p3 6 st)]) (va_runV (As := [.int (nI a), .int (nI d)]) (rest := []) ⟨hx, hb, hml, hown, hts⟩ (s_X1_sure l g v0 v1 v2 v3 (if 3 < w then 3 else w) dg uo_19 uh_20 pf Wr a d hv9 ha6 hd6 (fun k9 h9 h8 => hf_21 k9 (bt_all _ (v3_le w) k9 h9 h8)) (by first | assumption | decide | omega) H.size) (cwV 2 hts gX10_earnest_X1_sure rfl rfl rfl (by decide +kernel) ⟨Nat.le_of_ble_eq_true rfl, Nat.le_of_ble_eq_true rfl⟩) (he_preV (wc := [(oX1 v0 v1 v2 v3 (nI (if 3 < w then 3 else w)) dg), (aI g v1 3 uo_19), (aI g v2 3 uh_20), (aI g v3 3 pf)]) hK hP hD hS hA hE [1, 2, 3, 4] rfl rfl 1 rfl rfl) rfl rfl hl.1 rfl (lv_room (Nat.le_of_ble_eq_true rfl)) dX10_earnest_78 ⟨(Nat.le_of_ble_eq_true rfl), (Nat.le_of_ble_eq_true rfl)⟩) hP hD hS hA [1, 2, 3, 4] [0, 5, 6] rfl rfl rfl (by decide) (fun r_23 u_24 H locs h_25 hP hD hS => ?_)
          obtain ⟨uf_26, rfl⟩ : ∃ z, z = u_24 := ⟨_, rfl⟩
          subst h_25
          have hP : va_P g.1 vwCl [(oX10 x0 y0 ta z0 p0 dr pa to_ s0 im ki tr v0 rf), (oX6 p0 p1 p2 p3 p4 (nI w)), (aI g p3 6 st), (oX1 v0 v1 v2 v3 (nI (if 3 < w then 3 else w)) dg), (aI g v1 3 uo_19), (aI g v2 3 uh_20), (aI g v3 3 uf_26)] H := hP
          have hD : va_D A [(oX10 x0 y0 ta z0 p0 dr pa to_ s0 im ki tr v0 rf), (oX6 p0 p1 p2 p3 p4 (nI w)), (aI g p3 6 st), (oX1 v0 v1 v2 v3 (nI (if 3 < w then 3 else w)) dg), (aI g v1 3 uo_19), (aI g v2 3 uh_20), (aI g v3 3 uf_26)] := hD
          exact he_ri hQ hx hb hr hlk hP hD hS dX10_earnest_81 (Nat.le_of_ble_eq_true rfl) (Nat.le_of_ble_eq_true rfl) ((dg, uo_19, uh_20, uf_26)) (rfl) (rfl)
        · exact absurd c_22 (by decide)
set_option maxHeartbeats 4000000 in
set_option maxRecDepth 100000 in
theorem s_X10_stands (l : Launch) (g : he_G) (x0 : Nat) (y0 : Nat) (z0 : Nat) (dr : Nat) (pa : Nat) (s0 : Nat) (im : Nat) (tr : Nat) (v0 : Nat) (rf : Nat) (ta : Int32) (to_ : Int32) (ki : Int32) (p0 : Nat) (p1 : Nat) (p2 : Nat) (p3 : Nat) (p4 : Nat) (w : Nat) (st : Nat → Int32) (v1 : Nat) (v2 : Nat) (v3 : Nat) (ww : Int32) (dg : Int32) (wo : Nat → Int32) (he_ : Nat → Int32) (pf : Nat → Int32) (a : Nat) (d : Nat) (Wr : Nat → Nat) (hw6 : w ≤ 6) (ha6 : a ≤ 6) (hd6 : d ≤ 6) (hst : ∀ k, k < w → st k = nI (Wr k)) (hW9 : ∀ k, Wr k ≤ 99) : he_I l yX10_stands wsX10_stands 3 74 0 0 g [.ref x0, .int (nI a), .int (nI d)] [(oX10 x0 y0 ta z0 p0 dr pa to_ s0 im ki tr v0 rf), (oX6 p0 p1 p2 p3 p4 (nI w)), (aI g p3 6 st), (oX1 v0 v1 v2 v3 ww dg), (aI g v1 3 wo), (aI g v2 3 he_), (aI g v3 3 pf)] (fun (r : Int32) (u : Int32 × (Nat → Int32) × (Nat → Int32) × (Nat → Int32)) => r = nI (dsN (dgt (roN (foC Wr (allN (if 3 < w then 3 else w)) a d))) (if 3 < w then 3 else w))) (fun (u : Int32 × (Nat → Int32) × (Nat → Int32) × (Nat → Int32)) => [(oX10 x0 y0 ta z0 p0 dr pa to_ s0 im ki tr v0 rf), (oX6 p0 p1 p2 p3 p4 (nI w)), (aI g p3 6 st), (oX1 v0 v1 v2 v3 (nI (if 3 < w then 3 else w)) u.1), (aI g v1 3 u.2.1), (aI g v2 3 u.2.2.1), (aI g v3 3 u.2.2.2)]) := by
  refine he_begin (l := l) (g := g) (y := yX10_stands) (wl := wsX10_stands) (fr := 3) (lo := 74) (mc := 0) (ms := 0) (av := [.ref x0, .int (nI a), .int (nI d)]) (ws := [(oX10 x0 y0 ta z0 p0 dr pa to_ s0 im ki tr v0 rf), (oX6 p0 p1 p2 p3 p4 (nI w)), (aI g p3 6 st), (oX1 v0 v1 v2 v3 ww dg), (aI g v1 3 wo), (aI g v2 3 he_), (aI g v3 3 pf)]) (cc := cX10_stands) (maxL := 3) (ret := (some .int)) (fun A => va_Qi (fun (r : Int32) (u : Int32 × (Nat → Int32) × (Nat → Int32) × (Nat → Int32)) => r = nI (dsN (dgt (roN (foC Wr (allN (if 3 < w then 3 else w)) a d))) (if 3 < w then 3 else w))) (fun u t => he_post g A ((fun (u : Int32 × (Nat → Int32) × (Nat → Int32) × (Nat → Int32)) => [(oX10 x0 y0 ta z0 p0 dr pa to_ s0 im ki tr v0 rf), (oX6 p0 p1 p2 p3 p4 (nI w)), (aI g p3 6 st), (oX1 v0 v1 v2 v3 (nI (if 3 < w then 3 else w)) u.1), (aI g v1 3 u.2.1), (aI g v2 3 u.2.2.1), (aI g v3 3 u.2.2.2)]) u) t) A) (by decide) rfl (Nat.le_of_ble_eq_true rfl) ?_
  intro p e s m args below meth c A ls H locs Q hQ hB
  obtain ⟨hx, hb, hr, hml, hown, hts, hlk, hin, hP, hK, hD, hS, hA, hE, hl⟩ := hB
  have hl : lv_has ls 3 [(0, .ref x0), (1, .int (nI a)), (2, .int (nI d))] := hl
  have f57 := hts (.fieldLink RX10 57 "HiredEnemy" "battle" "LHiredEnemy$Battle;") (iwoX10_stands (k := 0) rfl)
  have inX10 : ∀ w ∈ wsX100, w ∈ wsX10_stands := innX10_stands_X10
  have f23 := hts (.fieldLink RX10 23 "HiredEnemy" "plan" "LHiredEnemy$Plan;") (iwoX10_stands (k := 1) rfl)
  have f226 := hts (.fieldLink RX10 226 "HiredEnemy$Battle" "safeDigits" "I") (iwoX10_stands (k := 2) rfl)
  have inX1 : ∀ w ∈ wsX10, w ∈ wsX10_stands := innX10_stands_X1
  refine lv_aload_n hx hb dX10_stands_0 rfl (lv_at hl 0 rfl) ?_
  refine lv_iload_n hx hb dX10_stands_1 rfl (lv_at hl 1 rfl) ?_
  refine lv_iconst (v := 0) hx hb dX10_stands_2 (by decide) ?_
  refine lv_bipush (v := 6) hx hb dX10_stands_3 (by decide) ?_
  refine he_ci (wc := []) (wr := [(oX10 x0 y0 ta z0 p0 dr pa to_ s0 im ki tr v0 rf), (oX6 p0 p1 p2 p3 p4 (nI w)), (aI g p3 6 st), (oX1 v0 v1 v2 v3 ww dg), (aI g v1 3 wo), (aI g v2 3 he_), (aI g v3 3 pf)]) (va_runS (As := [.int (nI a), .int 0, .int 6]) (rest := [.ref x0]) ⟨hx, hb, hml, hown, hts⟩ (c_X10_within l g (nI a) 0 6 H.size) (va_cwS 3 hts gX10_stands_X10_within rfl rfl rfl (by decide +kernel) ⟨Nat.le_of_ble_eq_true rfl, Nat.le_of_ble_eq_true rfl⟩) (he_preS (wc := []) hK hP hD hS hA hE [] rfl rfl) rfl rfl hl.1 rfl (lv_room (Nat.le_of_ble_eq_true rfl)) dX10_stands_5 ⟨(Nat.le_of_ble_eq_true rfl), (Nat.le_of_ble_eq_true rfl)⟩) hP hD hS hA [] [0, 1, 2, 3, 4, 5, 6] rfl rfl rfl (by decide) (fun r_1 u_2 H locs h_3 hP hD hS => ?_)
  subst h_3
  have hP : va_P g.1 vwCl [(oX10 x0 y0 ta z0 p0 dr pa to_ s0 im ki tr v0 rf), (oX6 p0 p1 p2 p3 p4 (nI w)), (aI g p3 6 st), (oX1 v0 v1 v2 v3 ww dg), (aI g v1 3 wo), (aI g v2 3 he_), (aI g v3 3 pf)] H := hP
  have hD : va_D A [(oX10 x0 y0 ta z0 p0 dr pa to_ s0 im ki tr v0 rf), (oX6 p0 p1 p2 p3 p4 (nI w)), (aI g p3 6 st), (oX1 v0 v1 v2 v3 ww dg), (aI g v1 3 wo), (aI g v2 3 he_), (aI g v3 3 pf)] := hD
  refine he_top (1) (he_within_in (a0 := 0) (B := 6) rfl rfl (by omega) (by omega) (by decide)) ?_
  refine lv_if_eq (tgt := 25) hx hb dX10_stands_8 (by decide) (fun c_4 => ?_) (fun c_4 => ?_)
  · exact absurd c_4 (by decide)
  · refine lv_iload_n hx hb dX10_stands_11 rfl (lv_at hl 2 rfl) ?_
    refine lv_iconst (v := 0) hx hb dX10_stands_12 (by decide) ?_
    refine lv_bipush (v := 6) hx hb dX10_stands_13 (by decide) ?_
    refine he_ci (wc := []) (wr := [(oX10 x0 y0 ta z0 p0 dr pa to_ s0 im ki tr v0 rf), (oX6 p0 p1 p2 p3 p4 (nI w)), (aI g p3 6 st), (oX1 v0 v1 v2 v3 ww dg), (aI g v1 3 wo), (aI g v2 3 he_), (aI g v3 3 pf)]) (va_runS (As := [.int (nI d), .int 0, .int 6]) (rest := [.ref x0]) ⟨hx, hb, hml, hown, hts⟩ (c_X10_within l g (nI d) 0 6 H.size) (va_cwS 3 hts gX10_stands_X10_within rfl rfl rfl (by decide +kernel) ⟨Nat.le_of_ble_eq_true rfl, Nat.le_of_ble_eq_true rfl⟩) (he_preS (wc := []) hK hP hD hS hA hE [] rfl rfl) rfl rfl hl.1 rfl (lv_room (Nat.le_of_ble_eq_true rfl)) dX10_stands_15 ⟨(Nat.le_of_ble_eq_true rfl), (Nat.le_of_ble_eq_true rfl)⟩) hP hD hS hA [] [0, 1, 2, 3, 4, 5, 6] rfl rfl rfl (by decide) (fun r_5 u_6 H locs h_7 hP hD hS => ?_)
    subst h_7
    have hP : va_P g.1 vwCl [(oX10 x0 y0 ta z0 p0 dr pa to_ s0 im ki tr v0 rf), (oX6 p0 p1 p2 p3 p4 (nI w)), (aI g p3 6 st), (oX1 v0 v1 v2 v3 ww dg), (aI g v1 3 wo), (aI g v2 3 he_), (aI g v3 3 pf)] H := hP
    have hD : va_D A [(oX10 x0 y0 ta z0 p0 dr pa to_ s0 im ki tr v0 rf), (oX6 p0 p1 p2 p3 p4 (nI w)), (aI g p3 6 st), (oX1 v0 v1 v2 v3 ww dg), (aI g v1 3 wo), (aI g v2 3 he_), (aI g v3 3 pf)] := hD
    refine he_top (1) (he_within_in (a0 := 0) (B := 6) rfl rfl (by omega) (by omega) (by decide)) ?_
    refine lv_if_eq (tgt := 25) hx hb dX10_stands_18 (by decide) (fun c_8 => ?_) (fun c_8 => ?_)
    · exact absurd c_8 (by decide)
    · refine lv_iconst (v := 1) hx hb dX10_stands_21 (by decide) ?_
      refine lv_goto (tgt := 26) hx hb dX10_stands_22 (by decide) ?_
      refine he_cv (wc := []) (wr := [(oX10 x0 y0 ta z0 p0 dr pa to_ s0 im ki tr v0 rf), (oX6 p0 p1 p2 p3 p4 (nI w)), (aI g p3 6 st), (oX1 v0 v1 v2 v3 ww dg), (aI g v1 3 wo), (aI g v2 3 he_), (aI g v3 3 pf)]) (va_runV (As := [.int 1]) (rest := []) ⟨hx, hb, hml, hown, hts⟩ (c_X10_demand1 l g x0 H.size) (cwV 1 hts gX10_stands_X10_demand rfl rfl rfl (by decide +kernel) ⟨Nat.le_of_ble_eq_true rfl, Nat.le_of_ble_eq_true rfl⟩) (he_preV (wc := []) hK hP hD hS hA hE [] rfl rfl 0 rfl rfl) rfl rfl hl.1 rfl (lv_room (Nat.le_of_ble_eq_true rfl)) dX10_stands_26 ⟨(Nat.le_of_ble_eq_true rfl), (Nat.le_of_ble_eq_true rfl)⟩) hP hD hS hA [] [0, 1, 2, 3, 4, 5, 6] rfl rfl rfl (by decide) (fun u_10 H locs h_11 hP hD hS => ?_)
      have hP : va_P g.1 vwCl [(oX10 x0 y0 ta z0 p0 dr pa to_ s0 im ki tr v0 rf), (oX6 p0 p1 p2 p3 p4 (nI w)), (aI g p3 6 st), (oX1 v0 v1 v2 v3 ww dg), (aI g v1 3 wo), (aI g v2 3 he_), (aI g v3 3 pf)] H := hP
      have hD : va_D A [(oX10 x0 y0 ta z0 p0 dr pa to_ s0 im ki tr v0 rf), (oX6 p0 p1 p2 p3 p4 (nI w)), (aI g p3 6 st), (oX1 v0 v1 v2 v3 ww dg), (aI g v1 3 wo), (aI g v2 3 he_), (aI g v3 3 pf)] := hD
      refine lv_aload_n hx hb dX10_stands_29 rfl (lv_at hl 0 rfl) ?_
      refine va_get (v := .ref v0) (T := TX10) (N := 13) hx hb hts inX10 hown hK hP 0 rfl rfl 11 (by decide) f57 (fun _ h9 => h9) rfl dX10_stands_30 ?_
      refine lv_aload_n hx hb dX10_stands_33 rfl (lv_at hl 0 rfl) ?_
      refine va_get (v := .ref p0) (T := TX10) (N := 13) hx hb hts inX10 hown hK hP 0 rfl rfl 3 (by decide) f23 (fun _ h9 => h9) rfl dX10_stands_34 ?_
      refine he_cv (wc := [(oX1 v0 v1 v2 v3 ww dg), (aI g v1 3 wo), (aI g v2 3 he_), (aI g v3 3 pf), (oX6 p0 p1 p2 p3 p4 (nI w)), (aI g p3 6 st)]) (wr := [(oX10 x0 y0 ta z0 p0 dr pa to_ s0 im ki tr v0 rf)]) (va_runV (As := [.ref p0]) (rest := []) ⟨hx, hb, hml, hown, hts⟩ (s_X1_prepare l g v0 v1 v2 v3 ww dg wo he_ pf p0 p1 p2 p3 p4 w st Wr (by first | assumption | decide | omega) (by first | assumption | decide | omega) (by first | assumption | decide | omega) H.size) (cwV 1 hts gX10_stands_X1_prepare rfl rfl rfl (by decide +kernel) ⟨Nat.le_of_ble_eq_true rfl, Nat.le_of_ble_eq_true rfl⟩) (he_preV (wc := [(oX1 v0 v1 v2 v3 ww dg), (aI g v1 3 wo), (aI g v2 3 he_), (aI g v3 3 pf), (oX6 p0 p1 p2 p3 p4 (nI w)), (aI g p3 6 st)]) hK hP hD hS hA hE [3, 4, 5, 6, 1, 2] rfl rfl 3 rfl rfl) rfl rfl hl.1 rfl (lv_room (Nat.le_of_ble_eq_true rfl)) dX10_stands_37 ⟨(Nat.le_of_ble_eq_true rfl), (Nat.le_of_ble_eq_true rfl)⟩) hP hD hS hA [3, 4, 5, 6, 1, 2] [0] rfl rfl rfl (by decide) (fun u_13 H locs h_14 hP hD hS => ?_)
      obtain ⟨uo_15, uh_16⟩ := u_13
      try dsimp only at h_14
      have hf_17 := h_14
      have hP : va_P g.1 vwCl [(oX10 x0 y0 ta z0 p0 dr pa to_ s0 im ki tr v0 rf), (oX1 v0 v1 v2 v3 (nI (if 3 < w then 3 else w)) dg), (aI g v1 3 uo_15), (aI g v2 3 uh_16), (aI g v3 3 pf), (oX6 p0 p1 p2 p3 p4 (nI w)), (aI g p3 6 st)] H := hP
      have hD : va_D A [(oX10 x0 y0 ta z0 p0 dr pa to_ s0 im ki tr v0 rf), (oX1 v0 v1 v2 v3 (nI (if 3 < w then 3 else w)) dg), (aI g v1 3 uo_15), (aI g v2 3 uh_16), (aI g v3 3 pf), (oX6 p0 p1 p2 p3 p4 (nI w)), (aI g p3 6 st)] := hD
      have hv9 := v3_le w
      have h79 := all_7 hv9
      refine lv_aload_n hx hb dX10_stands_40 rfl (lv_at hl 0 rfl) ?_
      refine va_get (v := .ref v0) (T := TX10) (N := 13) hx hb hts inX10 hown hK hP 0 rfl rfl 11 (by decide) f57 (fun _ h9 => h9) rfl dX10_stands_41 ?_
      refine lv_aload_n hx hb dX10_stands_44 rfl (lv_at hl 0 rfl) ?_
      refine va_get (v := .ref v0) (T := TX10) (N := 13) hx hb hts inX10 hown hK hP 0 rfl rfl 11 (by decide) f57 (fun _ h9 => h9) rfl dX10_stands_45 ?_
      refine he_ci (wc := [(oX1 v0 v1 v2 v3 (nI (if 3 < w then 3 else w)) dg), (aI g v1 3 uo_15), (aI g v2 3 uh_16), (aI g v3 3 pf)]) (wr := [(oX10 x0 y0 ta z0 p0 dr pa to_ s0 im ki tr v0 rf), (oX6 p0 p1 p2 p3 p4 (nI w)), (aI g p3 6 st)]) (va_runV (As := []) (rest := [.ref v0]) ⟨hx, hb, hml, hown, hts⟩ (g_X1_all l g v0 v1 v2 v3 (if 3 < w then 3 else w) dg uo_15 uh_16 pf (by first | assumption | decide | omega) H.size) (cwV 0 hts gX10_stands_X1_all rfl rfl rfl (by decide +kernel) ⟨Nat.le_of_ble_eq_true rfl, Nat.le_of_ble_eq_true rfl⟩) (he_preV (wc := [(oX1 v0 v1 v2 v3 (nI (if 3 < w then 3 else w)) dg), (aI g v1 3 uo_15), (aI g v2 3 uh_16), (aI g v3 3 pf)]) hK hP hD hS hA hE [1, 2, 3, 4] rfl rfl 1 rfl rfl) rfl rfl hl.1 rfl (lv_room (Nat.le_of_ble_eq_true rfl)) dX10_stands_48 ⟨(Nat.le_of_ble_eq_true rfl), (Nat.le_of_ble_eq_true rfl)⟩) hP hD hS hA [1, 2, 3, 4] [0, 5, 6] rfl rfl rfl (by decide) (fun r_18 u_19 H locs h_20 hP hD hS => ?_)
      subst h_20
      have hP : va_P g.1 vwCl [(oX10 x0 y0 ta z0 p0 dr pa to_ s0 im ki tr v0 rf), (oX6 p0 p1 p2 p3 p4 (nI w)), (aI g p3 6 st), (oX1 v0 v1 v2 v3 (nI (if 3 < w then 3 else w)) dg), (aI g v1 3 uo_15), (aI g v2 3 uh_16), (aI g v3 3 pf)] H := hP
      have hD : va_D A [(oX10 x0 y0 ta z0 p0 dr pa to_ s0 im ki tr v0 rf), (oX6 p0 p1 p2 p3 p4 (nI w)), (aI g p3 6 st), (oX1 v0 v1 v2 v3 (nI (if 3 < w then 3 else w)) dg), (aI g v1 3 uo_15), (aI g v2 3 uh_16), (aI g v3 3 pf)] := hD
      refine lv_iload_n hx hb dX10_stands_51 rfl (lv_at hl 1 rfl) ?_
      refine lv_iload_n hx hb dX10_stands_52 rfl (lv_at hl 2 rfl) ?_
      refine he_ci (wc := [(oX1 v0 v1 v2 v3 (nI (if 3 < w then 3 else w)) dg), (aI g v1 3 uo_15), (aI g v2 3 uh_16), (aI g v3 3 pf)]) (wr := [(oX10 x0 y0 ta z0 p0 dr pa to_ s0 im ki tr v0 rf), (oX6 p0 p1 p2 p3 p4 (nI w)), (aI g p3 6 st)]) (va_runV (As := [.int (nI (allN (if 3 < w then 3 else w))), .int (nI a), .int (nI d)]) (rest := []) ⟨hx, hb, hml, hown, hts⟩ (s_X1_safe l g v0 v1 v2 v3 (if 3 < w then 3 else w) dg uo_15 uh_16 pf Wr (allN (if 3 < w then 3 else w)) a d hv9 (by omega) (by first | assumption | decide | omega) (by first | assumption | decide | omega) (fun k9 h9 h8 => hf_17 k9 (bt_all _ (v3_le w) k9 h9 h8)) (by first | assumption | decide | omega) H.size) (cwV 3 hts gX10_stands_X1_safe rfl rfl rfl (by decide +kernel) ⟨Nat.le_of_ble_eq_true rfl, Nat.le_of_ble_eq_true rfl⟩) (he_preV (wc := [(oX1 v0 v1 v2 v3 (nI (if 3 < w then 3 else w)) dg), (aI g v1 3 uo_15), (aI g v2 3 uh_16), (aI g v3 3 pf)]) hK hP hD hS hA hE [3, 4, 5, 6] rfl rfl 3 rfl rfl) rfl rfl hl.1 rfl (lv_room (Nat.le_of_ble_eq_true rfl)) dX10_stands_53 ⟨(Nat.le_of_ble_eq_true rfl), (Nat.le_of_ble_eq_true rfl)⟩) hP hD hS hA [3, 4, 5, 6] [0, 1, 2] rfl rfl rfl (by decide) (fun r_21 u_22 H locs h_23 hP hD hS => ?_)
      obtain ⟨ud_24, uf_25⟩ := u_22
      try dsimp only at h_23
      obtain ⟨rfl, hf_26⟩ := h_23
      have hP : va_P g.1 vwCl [(oX10 x0 y0 ta z0 p0 dr pa to_ s0 im ki tr v0 rf), (oX6 p0 p1 p2 p3 p4 (nI w)), (aI g p3 6 st), (oX1 v0 v1 v2 v3 (nI (if 3 < w then 3 else w)) ud_24), (aI g v1 3 uo_15), (aI g v2 3 uh_16), (aI g v3 3 uf_25)] H := hP
      have hD : va_D A [(oX10 x0 y0 ta z0 p0 dr pa to_ s0 im ki tr v0 rf), (oX6 p0 p1 p2 p3 p4 (nI w)), (aI g p3 6 st), (oX1 v0 v1 v2 v3 (nI (if 3 < w then 3 else w)) ud_24), (aI g v1 3 uo_15), (aI g v2 3 uh_16), (aI g v3 3 uf_25)] := hD
      refine lv_pop hx hb dX10_stands_56 rfl ?_
      refine lv_aload_n hx hb dX10_stands_57 rfl (lv_at hl 0 rfl) ?_
      refine va_get (v := .ref v0) (T := TX10) (N := 13) hx hb hts inX10 hown hK hP 0 rfl rfl 11 (by decide) f57 (fun _ h9 => h9) rfl dX10_stands_58 ?_
      refine va_get (v := .int ud_24) (T := TX1) (N := 5) hx hb hts inX1 hown hK hP 3 rfl rfl 4 (by decide) f226 (fun _ h9 => h9) rfl dX10_stands_61 ?_
      exact he_ri hQ hx hb hr hlk hP hD hS dX10_stands_64 (Nat.le_of_ble_eq_true rfl) (Nat.le_of_ble_eq_true rfl) ((ud_24, uo_15, uh_16, uf_25)) (rfl) (hf_26)
set_option maxHeartbeats 4000000 in
set_option maxRecDepth 100000 in
theorem s_X10_show (l : Launch) (g : he_G) (x0 : Nat) (y0 : Nat) (z0 : Nat) (dr : Nat) (pa : Nat) (s0 : Nat) (im : Nat) (tr : Nat) (v0 : Nat) (rf : Nat) (ta : Int32) (to_ : Int32) (ki : Int32) (p0 : Nat) (p1 : Nat) (p2 : Nat) (p3 : Nat) (p4 : Nat) (w : Nat) (st : Nat → Int32) (v1 : Nat) (v2 : Nat) (v3 : Nat) (ww : Int32) (dg : Int32) (wo : Nat → Int32) (he_ : Nat → Int32) (pf : Nat → Int32) (a : Nat) (d : Nat) (Wr : Nat → Nat) (hw6 : w ≤ 6) (ha6 : a ≤ 6) (hd6 : d ≤ 6) (hst : ∀ k, k < w → st k = nI (Wr k)) (hW9 : ∀ k, Wr k ≤ 99) : he_I l yX10_show wsX10_show 3 74 0 0 g [.ref x0, .int (nI a), .int (nI d)] [(oX10 x0 y0 ta z0 p0 dr pa to_ s0 im ki tr v0 rf), (oX6 p0 p1 p2 p3 p4 (nI w)), (aI g p3 6 st), (oX1 v0 v1 v2 v3 ww dg), (aI g v1 3 wo), (aI g v2 3 he_), (aI g v3 3 pf)] (fun (r : Int32) (u : Int32 × (Nat → Int32) × (Nat → Int32) × (Nat → Int32)) => r = nI (shC Wr (if 3 < w then 3 else w) a d (if 3 < w then 3 else w))) (fun (u : Int32 × (Nat → Int32) × (Nat → Int32) × (Nat → Int32)) => [(oX10 x0 y0 ta z0 p0 dr pa to_ s0 im ki tr v0 rf), (oX6 p0 p1 p2 p3 p4 (nI w)), (aI g p3 6 st), (oX1 v0 v1 v2 v3 (nI (if 3 < w then 3 else w)) u.1), (aI g v1 3 u.2.1), (aI g v2 3 u.2.2.1), (aI g v3 3 u.2.2.2)]) := by
  refine he_begin (l := l) (g := g) (y := yX10_show) (wl := wsX10_show) (fr := 3) (lo := 74) (mc := 0) (ms := 0) (av := [.ref x0, .int (nI a), .int (nI d)]) (ws := [(oX10 x0 y0 ta z0 p0 dr pa to_ s0 im ki tr v0 rf), (oX6 p0 p1 p2 p3 p4 (nI w)), (aI g p3 6 st), (oX1 v0 v1 v2 v3 ww dg), (aI g v1 3 wo), (aI g v2 3 he_), (aI g v3 3 pf)]) (cc := cX10_show) (maxL := 7) (ret := (some .int)) (fun A => va_Qi (fun (r : Int32) (u : Int32 × (Nat → Int32) × (Nat → Int32) × (Nat → Int32)) => r = nI (shC Wr (if 3 < w then 3 else w) a d (if 3 < w then 3 else w))) (fun u t => he_post g A ((fun (u : Int32 × (Nat → Int32) × (Nat → Int32) × (Nat → Int32)) => [(oX10 x0 y0 ta z0 p0 dr pa to_ s0 im ki tr v0 rf), (oX6 p0 p1 p2 p3 p4 (nI w)), (aI g p3 6 st), (oX1 v0 v1 v2 v3 (nI (if 3 < w then 3 else w)) u.1), (aI g v1 3 u.2.1), (aI g v2 3 u.2.2.1), (aI g v3 3 u.2.2.2)]) u) t) A) (by decide) rfl (Nat.le_of_ble_eq_true rfl) ?_
  intro p e s m args below meth c A ls H locs Q hQ hB
  obtain ⟨hx, hb, hr, hml, hown, hts, hlk, hin, hP, hK, hD, hS, hA, hE, hl⟩ := hB
  have hl : lv_has ls 7 [(0, .ref x0), (1, .int (nI a)), (2, .int (nI d))] := hl
  have f57 := hts (.fieldLink RX10 57 "HiredEnemy" "battle" "LHiredEnemy$Battle;") (iwoX10_show (k := 0) rfl)
  have inX10 : ∀ w ∈ wsX100, w ∈ wsX10_show := innX10_show_X10
  have f23 := hts (.fieldLink RX10 23 "HiredEnemy" "plan" "LHiredEnemy$Plan;") (iwoX10_show (k := 1) rfl)
  have f229 := hts (.fieldLink RX10 229 "HiredEnemy$Battle" "walls" "I") (iwoX10_show (k := 2) rfl)
  have inX1 : ∀ w ∈ wsX10, w ∈ wsX10_show := innX10_show_X1
  refine lv_aload_n hx hb dX10_show_0 rfl (lv_at hl 0 rfl) ?_
  refine lv_iload_n hx hb dX10_show_1 rfl (lv_at hl 1 rfl) ?_
  refine lv_iconst (v := 0) hx hb dX10_show_2 (by decide) ?_
  refine lv_bipush (v := 6) hx hb dX10_show_3 (by decide) ?_
  refine he_ci (wc := []) (wr := [(oX10 x0 y0 ta z0 p0 dr pa to_ s0 im ki tr v0 rf), (oX6 p0 p1 p2 p3 p4 (nI w)), (aI g p3 6 st), (oX1 v0 v1 v2 v3 ww dg), (aI g v1 3 wo), (aI g v2 3 he_), (aI g v3 3 pf)]) (va_runS (As := [.int (nI a), .int 0, .int 6]) (rest := [.ref x0]) ⟨hx, hb, hml, hown, hts⟩ (c_X10_within l g (nI a) 0 6 H.size) (va_cwS 3 hts gX10_show_X10_within rfl rfl rfl (by decide +kernel) ⟨Nat.le_of_ble_eq_true rfl, Nat.le_of_ble_eq_true rfl⟩) (he_preS (wc := []) hK hP hD hS hA hE [] rfl rfl) rfl rfl hl.1 rfl (lv_room (Nat.le_of_ble_eq_true rfl)) dX10_show_5 ⟨(Nat.le_of_ble_eq_true rfl), (Nat.le_of_ble_eq_true rfl)⟩) hP hD hS hA [] [0, 1, 2, 3, 4, 5, 6] rfl rfl rfl (by decide) (fun r_1 u_2 H locs h_3 hP hD hS => ?_)
  subst h_3
  have hP : va_P g.1 vwCl [(oX10 x0 y0 ta z0 p0 dr pa to_ s0 im ki tr v0 rf), (oX6 p0 p1 p2 p3 p4 (nI w)), (aI g p3 6 st), (oX1 v0 v1 v2 v3 ww dg), (aI g v1 3 wo), (aI g v2 3 he_), (aI g v3 3 pf)] H := hP
  have hD : va_D A [(oX10 x0 y0 ta z0 p0 dr pa to_ s0 im ki tr v0 rf), (oX6 p0 p1 p2 p3 p4 (nI w)), (aI g p3 6 st), (oX1 v0 v1 v2 v3 ww dg), (aI g v1 3 wo), (aI g v2 3 he_), (aI g v3 3 pf)] := hD
  refine he_top (1) (he_within_in (a0 := 0) (B := 6) rfl rfl (by omega) (by omega) (by decide)) ?_
  refine lv_if_eq (tgt := 25) hx hb dX10_show_8 (by decide) (fun c_4 => ?_) (fun c_4 => ?_)
  · exact absurd c_4 (by decide)
  · refine lv_iload_n hx hb dX10_show_11 rfl (lv_at hl 2 rfl) ?_
    refine lv_iconst (v := 0) hx hb dX10_show_12 (by decide) ?_
    refine lv_bipush (v := 6) hx hb dX10_show_13 (by decide) ?_
    refine he_ci (wc := []) (wr := [(oX10 x0 y0 ta z0 p0 dr pa to_ s0 im ki tr v0 rf), (oX6 p0 p1 p2 p3 p4 (nI w)), (aI g p3 6 st), (oX1 v0 v1 v2 v3 ww dg), (aI g v1 3 wo), (aI g v2 3 he_), (aI g v3 3 pf)]) (va_runS (As := [.int (nI d), .int 0, .int 6]) (rest := [.ref x0]) ⟨hx, hb, hml, hown, hts⟩ (c_X10_within l g (nI d) 0 6 H.size) (va_cwS 3 hts gX10_show_X10_within rfl rfl rfl (by decide +kernel) ⟨Nat.le_of_ble_eq_true rfl, Nat.le_of_ble_eq_true rfl⟩) (he_preS (wc := []) hK hP hD hS hA hE [] rfl rfl) rfl rfl hl.1 rfl (lv_room (Nat.le_of_ble_eq_true rfl)) dX10_show_15 ⟨(Nat.le_of_ble_eq_true rfl), (Nat.le_of_ble_eq_true rfl)⟩) hP hD hS hA [] [0, 1, 2, 3, 4, 5, 6] rfl rfl rfl (by decide) (fun r_5 u_6 H locs h_7 hP hD hS => ?_)
    subst h_7
    have hP : va_P g.1 vwCl [(oX10 x0 y0 ta z0 p0 dr pa to_ s0 im ki tr v0 rf), (oX6 p0 p1 p2 p3 p4 (nI w)), (aI g p3 6 st), (oX1 v0 v1 v2 v3 ww dg), (aI g v1 3 wo), (aI g v2 3 he_), (aI g v3 3 pf)] H := hP
    have hD : va_D A [(oX10 x0 y0 ta z0 p0 dr pa to_ s0 im ki tr v0 rf), (oX6 p0 p1 p2 p3 p4 (nI w)), (aI g p3 6 st), (oX1 v0 v1 v2 v3 ww dg), (aI g v1 3 wo), (aI g v2 3 he_), (aI g v3 3 pf)] := hD
    refine he_top (1) (he_within_in (a0 := 0) (B := 6) rfl rfl (by omega) (by omega) (by decide)) ?_
    refine lv_if_eq (tgt := 25) hx hb dX10_show_18 (by decide) (fun c_8 => ?_) (fun c_8 => ?_)
    · exact absurd c_8 (by decide)
    · refine lv_iconst (v := 1) hx hb dX10_show_21 (by decide) ?_
      refine lv_goto (tgt := 26) hx hb dX10_show_22 (by decide) ?_
      refine he_cv (wc := []) (wr := [(oX10 x0 y0 ta z0 p0 dr pa to_ s0 im ki tr v0 rf), (oX6 p0 p1 p2 p3 p4 (nI w)), (aI g p3 6 st), (oX1 v0 v1 v2 v3 ww dg), (aI g v1 3 wo), (aI g v2 3 he_), (aI g v3 3 pf)]) (va_runV (As := [.int 1]) (rest := []) ⟨hx, hb, hml, hown, hts⟩ (c_X10_demand1 l g x0 H.size) (cwV 1 hts gX10_show_X10_demand rfl rfl rfl (by decide +kernel) ⟨Nat.le_of_ble_eq_true rfl, Nat.le_of_ble_eq_true rfl⟩) (he_preV (wc := []) hK hP hD hS hA hE [] rfl rfl 0 rfl rfl) rfl rfl hl.1 rfl (lv_room (Nat.le_of_ble_eq_true rfl)) dX10_show_26 ⟨(Nat.le_of_ble_eq_true rfl), (Nat.le_of_ble_eq_true rfl)⟩) hP hD hS hA [] [0, 1, 2, 3, 4, 5, 6] rfl rfl rfl (by decide) (fun u_10 H locs h_11 hP hD hS => ?_)
      have hP : va_P g.1 vwCl [(oX10 x0 y0 ta z0 p0 dr pa to_ s0 im ki tr v0 rf), (oX6 p0 p1 p2 p3 p4 (nI w)), (aI g p3 6 st), (oX1 v0 v1 v2 v3 ww dg), (aI g v1 3 wo), (aI g v2 3 he_), (aI g v3 3 pf)] H := hP
      have hD : va_D A [(oX10 x0 y0 ta z0 p0 dr pa to_ s0 im ki tr v0 rf), (oX6 p0 p1 p2 p3 p4 (nI w)), (aI g p3 6 st), (oX1 v0 v1 v2 v3 ww dg), (aI g v1 3 wo), (aI g v2 3 he_), (aI g v3 3 pf)] := hD
      refine lv_aload_n hx hb dX10_show_29 rfl (lv_at hl 0 rfl) ?_
      refine va_get (v := .ref v0) (T := TX10) (N := 13) hx hb hts inX10 hown hK hP 0 rfl rfl 11 (by decide) f57 (fun _ h9 => h9) rfl dX10_show_30 ?_
      refine lv_aload_n hx hb dX10_show_33 rfl (lv_at hl 0 rfl) ?_
      refine va_get (v := .ref p0) (T := TX10) (N := 13) hx hb hts inX10 hown hK hP 0 rfl rfl 3 (by decide) f23 (fun _ h9 => h9) rfl dX10_show_34 ?_
      refine he_cv (wc := [(oX1 v0 v1 v2 v3 ww dg), (aI g v1 3 wo), (aI g v2 3 he_), (aI g v3 3 pf), (oX6 p0 p1 p2 p3 p4 (nI w)), (aI g p3 6 st)]) (wr := [(oX10 x0 y0 ta z0 p0 dr pa to_ s0 im ki tr v0 rf)]) (va_runV (As := [.ref p0]) (rest := []) ⟨hx, hb, hml, hown, hts⟩ (s_X1_prepare l g v0 v1 v2 v3 ww dg wo he_ pf p0 p1 p2 p3 p4 w st Wr (by first | assumption | decide | omega) (by first | assumption | decide | omega) (by first | assumption | decide | omega) H.size) (cwV 1 hts gX10_show_X1_prepare rfl rfl rfl (by decide +kernel) ⟨Nat.le_of_ble_eq_true rfl, Nat.le_of_ble_eq_true rfl⟩) (he_preV (wc := [(oX1 v0 v1 v2 v3 ww dg), (aI g v1 3 wo), (aI g v2 3 he_), (aI g v3 3 pf), (oX6 p0 p1 p2 p3 p4 (nI w)), (aI g p3 6 st)]) hK hP hD hS hA hE [3, 4, 5, 6, 1, 2] rfl rfl 3 rfl rfl) rfl rfl hl.1 rfl (lv_room (Nat.le_of_ble_eq_true rfl)) dX10_show_37 ⟨(Nat.le_of_ble_eq_true rfl), (Nat.le_of_ble_eq_true rfl)⟩) hP hD hS hA [3, 4, 5, 6, 1, 2] [0] rfl rfl rfl (by decide) (fun u_13 H locs h_14 hP hD hS => ?_)
      obtain ⟨uo_15, uh_16⟩ := u_13
      try dsimp only at h_14
      have hf_17 := h_14
      have hP : va_P g.1 vwCl [(oX10 x0 y0 ta z0 p0 dr pa to_ s0 im ki tr v0 rf), (oX1 v0 v1 v2 v3 (nI (if 3 < w then 3 else w)) dg), (aI g v1 3 uo_15), (aI g v2 3 uh_16), (aI g v3 3 pf), (oX6 p0 p1 p2 p3 p4 (nI w)), (aI g p3 6 st)] H := hP
      have hD : va_D A [(oX10 x0 y0 ta z0 p0 dr pa to_ s0 im ki tr v0 rf), (oX1 v0 v1 v2 v3 (nI (if 3 < w then 3 else w)) dg), (aI g v1 3 uo_15), (aI g v2 3 uh_16), (aI g v3 3 pf), (oX6 p0 p1 p2 p3 p4 (nI w)), (aI g p3 6 st)] := hD
      have hv9 := v3_le w
      have h79 := all_7 hv9
      refine lv_aload_n hx hb dX10_show_40 rfl (lv_at hl 0 rfl) ?_
      refine va_get (v := .ref v0) (T := TX10) (N := 13) hx hb hts inX10 hown hK hP 0 rfl rfl 11 (by decide) f57 (fun _ h9 => h9) rfl dX10_show_41 ?_
      refine lv_aload_n hx hb dX10_show_44 rfl (lv_at hl 0 rfl) ?_
      refine va_get (v := .ref v0) (T := TX10) (N := 13) hx hb hts inX10 hown hK hP 0 rfl rfl 11 (by decide) f57 (fun _ h9 => h9) rfl dX10_show_45 ?_
      refine he_ci (wc := [(oX1 v0 v1 v2 v3 (nI (if 3 < w then 3 else w)) dg), (aI g v1 3 uo_15), (aI g v2 3 uh_16), (aI g v3 3 pf)]) (wr := [(oX10 x0 y0 ta z0 p0 dr pa to_ s0 im ki tr v0 rf), (oX6 p0 p1 p2 p3 p4 (nI w)), (aI g p3 6 st)]) (va_runV (As := []) (rest := [.ref v0]) ⟨hx, hb, hml, hown, hts⟩ (g_X1_all l g v0 v1 v2 v3 (if 3 < w then 3 else w) dg uo_15 uh_16 pf (by first | assumption | decide | omega) H.size) (cwV 0 hts gX10_show_X1_all rfl rfl rfl (by decide +kernel) ⟨Nat.le_of_ble_eq_true rfl, Nat.le_of_ble_eq_true rfl⟩) (he_preV (wc := [(oX1 v0 v1 v2 v3 (nI (if 3 < w then 3 else w)) dg), (aI g v1 3 uo_15), (aI g v2 3 uh_16), (aI g v3 3 pf)]) hK hP hD hS hA hE [1, 2, 3, 4] rfl rfl 1 rfl rfl) rfl rfl hl.1 rfl (lv_room (Nat.le_of_ble_eq_true rfl)) dX10_show_48 ⟨(Nat.le_of_ble_eq_true rfl), (Nat.le_of_ble_eq_true rfl)⟩) hP hD hS hA [1, 2, 3, 4] [0, 5, 6] rfl rfl rfl (by decide) (fun r_18 u_19 H locs h_20 hP hD hS => ?_)
      subst h_20
      have hP : va_P g.1 vwCl [(oX10 x0 y0 ta z0 p0 dr pa to_ s0 im ki tr v0 rf), (oX6 p0 p1 p2 p3 p4 (nI w)), (aI g p3 6 st), (oX1 v0 v1 v2 v3 (nI (if 3 < w then 3 else w)) dg), (aI g v1 3 uo_15), (aI g v2 3 uh_16), (aI g v3 3 pf)] H := hP
      have hD : va_D A [(oX10 x0 y0 ta z0 p0 dr pa to_ s0 im ki tr v0 rf), (oX6 p0 p1 p2 p3 p4 (nI w)), (aI g p3 6 st), (oX1 v0 v1 v2 v3 (nI (if 3 < w then 3 else w)) dg), (aI g v1 3 uo_15), (aI g v2 3 uh_16), (aI g v3 3 pf)] := hD
      refine lv_iload_n hx hb dX10_show_51 rfl (lv_at hl 1 rfl) ?_
      refine lv_iload_n hx hb dX10_show_52 rfl (lv_at hl 2 rfl) ?_
      refine he_ci (wc := [(oX1 v0 v1 v2 v3 (nI (if 3 < w then 3 else w)) dg), (aI g v1 3 uo_15), (aI g v2 3 uh_16), (aI g v3 3 pf)]) (wr := [(oX10 x0 y0 ta z0 p0 dr pa to_ s0 im ki tr v0 rf), (oX6 p0 p1 p2 p3 p4 (nI w)), (aI g p3 6 st)]) (va_runV (As := [.int (nI (allN (if 3 < w then 3 else w))), .int (nI a), .int (nI d)]) (rest := []) ⟨hx, hb, hml, hown, hts⟩ (s_X1_safe l g v0 v1 v2 v3 (if 3 < w then 3 else w) dg uo_15 uh_16 pf Wr (allN (if 3 < w then 3 else w)) a d hv9 (by omega) (by first | assumption | decide | omega) (by first | assumption | decide | omega) (fun k9 h9 h8 => hf_17 k9 (bt_all _ (v3_le w) k9 h9 h8)) (by first | assumption | decide | omega) H.size) (cwV 3 hts gX10_show_X1_safe rfl rfl rfl (by decide +kernel) ⟨Nat.le_of_ble_eq_true rfl, Nat.le_of_ble_eq_true rfl⟩) (he_preV (wc := [(oX1 v0 v1 v2 v3 (nI (if 3 < w then 3 else w)) dg), (aI g v1 3 uo_15), (aI g v2 3 uh_16), (aI g v3 3 pf)]) hK hP hD hS hA hE [3, 4, 5, 6] rfl rfl 3 rfl rfl) rfl rfl hl.1 rfl (lv_room (Nat.le_of_ble_eq_true rfl)) dX10_show_53 ⟨(Nat.le_of_ble_eq_true rfl), (Nat.le_of_ble_eq_true rfl)⟩) hP hD hS hA [3, 4, 5, 6] [0, 1, 2] rfl rfl rfl (by decide) (fun r_21 u_22 H locs h_23 hP hD hS => ?_)
      obtain ⟨ud_24, uf_25⟩ := u_22
      try dsimp only at h_23
      obtain ⟨rfl, hf_26⟩ := h_23
      have hP : va_P g.1 vwCl [(oX10 x0 y0 ta z0 p0 dr pa to_ s0 im ki tr v0 rf), (oX6 p0 p1 p2 p3 p4 (nI w)), (aI g p3 6 st), (oX1 v0 v1 v2 v3 (nI (if 3 < w then 3 else w)) ud_24), (aI g v1 3 uo_15), (aI g v2 3 uh_16), (aI g v3 3 uf_25)] H := hP
      have hD : va_D A [(oX10 x0 y0 ta z0 p0 dr pa to_ s0 im ki tr v0 rf), (oX6 p0 p1 p2 p3 p4 (nI w)), (aI g p3 6 st), (oX1 v0 v1 v2 v3 (nI (if 3 < w then 3 else w)) ud_24), (aI g v1 3 uo_15), (aI g v2 3 uh_16), (aI g v3 3 uf_25)] := hD
      refine lv_istore_n (lv' := [(3, .int (nI (leN (foC Wr (allN (if 3 < w then 3 else w)) a d)))), (0, .ref x0), (1, .int (nI a)), (2, .int (nI d))]) hx hb dX10_show_56 rfl hl (by decide) rfl (fun ls hl => ?_)
      refine lv_iconst (v := 0) hx hb dX10_show_57 (by decide) ?_
      refine lv_istore (lv' := [(4, .int 0), (3, .int (nI (leN (foC Wr (allN (if 3 < w then 3 else w)) a d)))), (0, .ref x0), (1, .int (nI a)), (2, .int (nI d))]) hx hb dX10_show_58 hl (by decide) rfl (fun ls hl => ?_)
      have hP37 := hf_17
      refine lv_iconst (v := 0) hx hb dX10_show_60 (by decide) ?_
      refine lv_istore (lv' := [(5, .int 0), (4, .int 0), (3, .int (nI (leN (foC Wr (allN (if 3 < w then 3 else w)) a d)))), (0, .ref x0), (1, .int (nI a)), (2, .int (nI d))]) hx hb dX10_show_61 hl (by decide) rfl (fun ls hl => ?_)
      have loop63 : ∀ (n9 : Nat) (j : Nat) (rs : Nat) (dd : Int32) (pu : Nat → Int32), (if 3 < w then 3 else w) - j < n9 → (j ≤ (if 3 < w then 3 else w)) → (rs = shC Wr (if 3 < w then 3 else w) a d j) → ∀ (H : Heap) (locs : List Loc) (ls : Array Slot), va_P g.1 vwCl [(oX10 x0 y0 ta z0 p0 dr pa to_ s0 im ki tr v0 rf), (oX6 p0 p1 p2 p3 p4 (nI w)), (aI g p3 6 st), (oX1 v0 v1 v2 v3 (nI (if 3 < w then 3 else w)) dd), (aI g v1 3 uo_15), (aI g v2 3 uh_16), (aI g v3 3 pu)] H → va_D A [(oX10 x0 y0 ta z0 p0 dr pa to_ s0 im ki tr v0 rf), (oX6 p0 p1 p2 p3 p4 (nI w)), (aI g p3 6 st), (oX1 v0 v1 v2 v3 (nI (if 3 < w then 3 else w)) dd), (aI g v1 3 uo_15), (aI g v2 3 uh_16), (aI g v3 3 pu)] → va_S A s.heap H locs → lv_has ls 7 [(0, .ref x0), (1, .int (nI a)), (2, .int (nI d)), (3, .int (nI (leN (foC Wr (allN (if 3 < w then 3 else w)) a d)))), (4, .int (nI rs)), (5, .int (nI j))] → W p l e (he_room 3 74 0 0) s m args below meth c H locs 0 0 Q (F0 m 63 ls []) := by
        intro n9
        induction n9 with
        | zero => intro j rs dd pu hm9; exact absurd hm9 (Nat.not_lt_zero _)
        | succ n9 ih63 =>
          intro j rs dd pu hm9 hj hrs H locs ls hP hD hS hl
          refine lv_iload hx hb dX10_show_63 (lv_at hl 5 rfl) ?_
          refine lv_aload_n hx hb dX10_show_65 rfl (lv_at hl 0 rfl) ?_
          refine va_get (v := .ref v0) (T := TX10) (N := 13) hx hb hts inX10 hown hK hP 0 rfl rfl 11 (by decide) f57 (fun _ h9 => h9) rfl dX10_show_66 ?_
          refine va_get (v := .int (nI (if 3 < w then 3 else w))) (T := TX1) (N := 5) hx hb hts inX1 hown hK hP 3 rfl rfl 3 (by decide) f229 (fun _ h9 => h9) rfl dX10_show_69 ?_
          refine lv_icmp_ge (tgt := 121) hx hb dX10_show_72 (by decide) (fun c_27 => ?_) (fun c_27 => ?_)
          · have k_28 : (if 3 < w then 3 else w) ≤ j := (he_cle (a := (if 3 < w then 3 else w)) (b := j) rfl rfl (by omega) (by omega)).mp c_27
            refine lv_iload hx hb dX10_show_121 (lv_at hl 4 rfl) ?_
            exact he_ri hQ hx hb hr hlk hP hD hS dX10_show_123 (Nat.le_of_ble_eq_true rfl) (Nat.le_of_ble_eq_true rfl) ((dd, uo_15, uh_16, pu)) (rfl) ((congrArg nI (by (try dsimp only); rw [hrs, show j = (if 3 < w then 3 else w) by (try dsimp only); omega])))
          · have k_29 : ¬ ((if 3 < w then 3 else w) ≤ j) := fun h9 => c_27 ((he_cle (a := (if 3 < w then 3 else w)) (b := j) rfl rfl (by omega) (by omega)).mpr h9)
            refine lv_aload_n hx hb dX10_show_75 rfl (lv_at hl 0 rfl) ?_
            refine va_get (v := .ref v0) (T := TX10) (N := 13) hx hb hts inX10 hown hK hP 0 rfl rfl 11 (by decide) f57 (fun _ h9 => h9) rfl dX10_show_76 ?_
            refine he_ci (wc := [(oX1 v0 v1 v2 v3 (nI (if 3 < w then 3 else w)) dd), (aI g v1 3 uo_15), (aI g v2 3 uh_16), (aI g v3 3 pu)]) (wr := [(oX10 x0 y0 ta z0 p0 dr pa to_ s0 im ki tr v0 rf), (oX6 p0 p1 p2 p3 p4 (nI w)), (aI g p3 6 st)]) (va_runV (As := []) (rest := []) ⟨hx, hb, hml, hown, hts⟩ (g_X1_all l g v0 v1 v2 v3 (if 3 < w then 3 else w) dd uo_15 uh_16 pu (by first | assumption | decide | omega) H.size) (cwV 0 hts gX10_show_X1_all rfl rfl rfl (by decide +kernel) ⟨Nat.le_of_ble_eq_true rfl, Nat.le_of_ble_eq_true rfl⟩) (he_preV (wc := [(oX1 v0 v1 v2 v3 (nI (if 3 < w then 3 else w)) dd), (aI g v1 3 uo_15), (aI g v2 3 uh_16), (aI g v3 3 pu)]) hK hP hD hS hA hE [3, 4, 5, 6] rfl rfl 3 rfl rfl) rfl rfl hl.1 rfl (lv_room (Nat.le_of_ble_eq_true rfl)) dX10_show_79 ⟨(Nat.le_of_ble_eq_true rfl), (Nat.le_of_ble_eq_true rfl)⟩) hP hD hS hA [3, 4, 5, 6] [0, 1, 2] rfl rfl rfl (by decide) (fun r_30 u_31 H locs h_32 hP hD hS => ?_)
            subst h_32
            have hP : va_P g.1 vwCl [(oX10 x0 y0 ta z0 p0 dr pa to_ s0 im ki tr v0 rf), (oX6 p0 p1 p2 p3 p4 (nI w)), (aI g p3 6 st), (oX1 v0 v1 v2 v3 (nI (if 3 < w then 3 else w)) dd), (aI g v1 3 uo_15), (aI g v2 3 uh_16), (aI g v3 3 pu)] H := hP
            have hD : va_D A [(oX10 x0 y0 ta z0 p0 dr pa to_ s0 im ki tr v0 rf), (oX6 p0 p1 p2 p3 p4 (nI w)), (aI g p3 6 st), (oX1 v0 v1 v2 v3 (nI (if 3 < w then 3 else w)) dd), (aI g v1 3 uo_15), (aI g v2 3 uh_16), (aI g v3 3 pu)] := hD
            refine lv_iconst (v := 1) hx hb dX10_show_82 (by decide) ?_
            refine lv_iload hx hb dX10_show_83 (lv_at hl 5 rfl) ?_
            refine lv_ishl hx hb dX10_show_85 ?_
            refine lv_iconst (v := (-1)) hx hb dX10_show_86 (by decide) ?_
            refine lv_ixor hx hb dX10_show_87 ?_
            refine lv_iand hx hb dX10_show_88 ?_
            refine he_top (nI (rmN (allN (if 3 < w then 3 else w)) j)) (rm_e (allN (if 3 < w then 3 else w)) (by omega) j (by omega)) ?_
            refine lv_istore (lv' := [(6, .int (nI (rmN (allN (if 3 < w then 3 else w)) j))), (0, .ref x0), (1, .int (nI a)), (2, .int (nI d)), (3, .int (nI (leN (foC Wr (allN (if 3 < w then 3 else w)) a d)))), (4, .int (nI rs)), (5, .int (nI j))]) hx hb dX10_show_89 hl (by decide) rfl (fun ls hl => ?_)
            refine lv_aload_n hx hb dX10_show_91 rfl (lv_at hl 1 rfl) ?_
            refine va_get (v := .ref v0) (T := TX10) (N := 13) hx hb hts inX10 hown hK hP 0 rfl rfl 11 (by decide) f57 (fun _ h9 => h9) rfl dX10_show_92 ?_
            refine lv_iload hx hb dX10_show_95 (lv_at hl 0 rfl) ?_
            refine lv_iload_n hx hb dX10_show_97 rfl (lv_at hl 2 rfl) ?_
            refine lv_iload_n hx hb dX10_show_98 rfl (lv_at hl 3 rfl) ?_
            refine he_ci (wc := [(oX1 v0 v1 v2 v3 (nI (if 3 < w then 3 else w)) dd), (aI g v1 3 uo_15), (aI g v2 3 uh_16), (aI g v3 3 pu)]) (wr := [(oX10 x0 y0 ta z0 p0 dr pa to_ s0 im ki tr v0 rf), (oX6 p0 p1 p2 p3 p4 (nI w)), (aI g p3 6 st)]) (va_runV (As := [.int (nI (rmN (allN (if 3 < w then 3 else w)) j)), .int (nI a), .int (nI d)]) (rest := []) ⟨hx, hb, hml, hown, hts⟩ (s_X1_safe l g v0 v1 v2 v3 (if 3 < w then 3 else w) dd uo_15 uh_16 pu Wr (rmN (allN (if 3 < w then 3 else w)) j) a d hv9 (rm_lt (allN (if 3 < w then 3 else w)) (by omega) j (by omega)) (by first | assumption | decide | omega) (by first | assumption | decide | omega) (fun k9 h9 h8 => hP37 k9 (bt_all _ (v3_le w) k9 h9 (rm_sub (allN (if 3 < w then 3 else w)) (by omega) j (by omega) k9 h9 h8))) (by first | assumption | decide | omega) H.size) (cwV 3 hts gX10_show_X1_safe rfl rfl rfl (by decide +kernel) ⟨Nat.le_of_ble_eq_true rfl, Nat.le_of_ble_eq_true rfl⟩) (he_preV (wc := [(oX1 v0 v1 v2 v3 (nI (if 3 < w then 3 else w)) dd), (aI g v1 3 uo_15), (aI g v2 3 uh_16), (aI g v3 3 pu)]) hK hP hD hS hA hE [3, 4, 5, 6] rfl rfl 3 rfl rfl) rfl rfl hl.1 rfl (lv_room (Nat.le_of_ble_eq_true rfl)) dX10_show_99 ⟨(Nat.le_of_ble_eq_true rfl), (Nat.le_of_ble_eq_true rfl)⟩) hP hD hS hA [3, 4, 5, 6] [0, 1, 2] rfl rfl rfl (by decide) (fun r_33 u_34 H locs h_35 hP hD hS => ?_)
            obtain ⟨ud_36, uf_37⟩ := u_34
            try dsimp only at h_35
            obtain ⟨rfl, hf_38⟩ := h_35
            have hP : va_P g.1 vwCl [(oX10 x0 y0 ta z0 p0 dr pa to_ s0 im ki tr v0 rf), (oX6 p0 p1 p2 p3 p4 (nI w)), (aI g p3 6 st), (oX1 v0 v1 v2 v3 (nI (if 3 < w then 3 else w)) ud_36), (aI g v1 3 uo_15), (aI g v2 3 uh_16), (aI g v3 3 uf_37)] H := hP
            have hD : va_D A [(oX10 x0 y0 ta z0 p0 dr pa to_ s0 im ki tr v0 rf), (oX6 p0 p1 p2 p3 p4 (nI w)), (aI g p3 6 st), (oX1 v0 v1 v2 v3 (nI (if 3 < w then 3 else w)) ud_36), (aI g v1 3 uo_15), (aI g v2 3 uh_16), (aI g v3 3 uf_37)] := hD
            refine lv_iload_n hx hb dX10_show_102 rfl (lv_at hl 4 rfl) ?_
            refine lv_icmp_ne (tgt := 115) hx hb dX10_show_103 (by decide) (fun c_39 => ?_) (fun c_39 => ?_)
            · have heq : ¬ leN (foC Wr (rmN (allN (if 3 < w then 3 else w)) j) a d) = leN (foC Wr (allN (if 3 < w then 3 else w)) a d) := fun h9 => c_39 (by rw [h9])
              refine lv_iinc (v := nI (j + 1)) (lv' := [(5, .int (nI (j + 1))), (6, .int (nI (rmN (allN (if 3 < w then 3 else w)) j))), (0, .ref x0), (1, .int (nI a)), (2, .int (nI d)), (3, .int (nI (leN (foC Wr (allN (if 3 < w then 3 else w)) a d)))), (4, .int (nI rs))]) hx hb dX10_show_115 hl (k := 6) rfl (nI_1 j) (by decide) rfl (fun ls hl => ?_)
              refine lv_goto (tgt := 63) hx hb dX10_show_118 (by decide) ?_
              exact ih63 (j + 1) rs ud_36 uf_37 (by omega) (by omega) (shC_n hrs heq) _ _ _ hP hD hS (lv_sub hl [2, 3, 4, 5, 6, 0] rfl)
            · have heq : leN (foC Wr (rmN (allN (if 3 < w then 3 else w)) j) a d) = leN (foC Wr (allN (if 3 < w then 3 else w)) a d) := nI_j (by have := leN_le (fo_bo hW9 (rmN (allN (if 3 < w then 3 else w)) j) a d); omega) (by have := leN_le (fo_bo hW9 (allN (if 3 < w then 3 else w)) a d); omega) c_39
              refine lv_iload hx hb dX10_show_106 (lv_at hl 5 rfl) ?_
              refine lv_iconst (v := 1) hx hb dX10_show_108 (by decide) ?_
              refine lv_iload hx hb dX10_show_109 (lv_at hl 6 rfl) ?_
              refine lv_ishl hx hb dX10_show_111 ?_
              refine lv_ior hx hb dX10_show_112 ?_
              refine he_top (nI (rs + 2 ^ j)) (or_e j (by omega) rs (by rw [hrs]; exact shC_lt j)) ?_
              refine lv_istore (lv' := [(4, .int (nI (rs + 2 ^ j))), (6, .int (nI (rmN (allN (if 3 < w then 3 else w)) j))), (0, .ref x0), (1, .int (nI a)), (2, .int (nI d)), (3, .int (nI (leN (foC Wr (allN (if 3 < w then 3 else w)) a d)))), (5, .int (nI j))]) hx hb dX10_show_113 hl (by decide) rfl (fun ls hl => ?_)
              refine lv_iinc (v := nI (j + 1)) (lv' := [(5, .int (nI (j + 1))), (4, .int (nI (rs + 2 ^ j))), (6, .int (nI (rmN (allN (if 3 < w then 3 else w)) j))), (0, .ref x0), (1, .int (nI a)), (2, .int (nI d)), (3, .int (nI (leN (foC Wr (allN (if 3 < w then 3 else w)) a d))))]) hx hb dX10_show_115 hl (k := 6) rfl (nI_1 j) (by decide) rfl (fun ls hl => ?_)
              refine lv_goto (tgt := 63) hx hb dX10_show_118 (by decide) ?_
              exact ih63 (j + 1) (rs + 2 ^ j) ud_36 uf_37 (by omega) (by omega) (shC_y hrs heq) _ _ _ hP hD hS (lv_sub hl [3, 4, 5, 6, 1, 0] rfl)
      exact loop63 (((if 3 < w then 3 else w) - 0) + 1) 0 0 ud_24 uf_25 (Nat.lt_succ_self _) (Nat.zero_le _) rfl _ _ _ hP hD hS (lv_sub hl [3, 4, 5, 2, 1, 0] rfl)
end
section
def puI (ro n an : Nat) : Int32 := if puB ro n an = true then 1 else 0
theorem puI_y {ro n an : Nat} (h : ¬ puI ro n an = 0) : puB ro n an = true := by
  unfold puI at h
  split at h
  · assumption
  · exact absurd rfl h
theorem puI_n {ro n an : Nat} (h : puI ro n an = 0) : ¬ puB ro n an = true := fun h9 => by
  unfold puI at h
  rw [if_pos h9] at h
  exact absurd h (by decide)
theorem pu_1 {ro n an : Nat} (h : ∀ k, k < 3 → bt an k = true ∨ dgt ro k = 0) (h2 : dgt ro 0 + dgt ro 1 + dgt ro 2 = n ∨ an = 0) : puI ro n an = 1 := by
  unfold puI puB
  rw [if_pos]
  have h0 := h 0 (by decide)
  have h1 := h 1 (by decide)
  have h3 := h 2 (by decide)
  simp only [Bool.and_eq_true, Bool.or_eq_true, beq_iff_eq]
  exact ⟨⟨⟨h0, h1⟩, h3⟩, h2⟩
theorem pu_0a {ro n an : Nat} (h : ¬ dgt ro 0 + dgt ro 1 + dgt ro 2 = n) (h2 : ¬ an = 0) : puI ro n an = 0 := by
  unfold puI puB
  rw [if_neg]
  simp only [Bool.and_eq_true, Bool.or_eq_true, beq_iff_eq]
  rintro ⟨-, h9⟩
  exact h9.elim h h2
theorem pu_0b {ro n an k : Nat} (hk : k < 3) (h1 : ¬ bt an k = true) (h2 : ¬ dgt ro k = 0) : puI ro n an = 0 := by
  unfold puI puB
  rw [if_neg]
  simp only [Bool.and_eq_true, Bool.or_eq_true, beq_iff_eq]
  rintro ⟨⟨⟨a0, a1⟩, a2⟩, -⟩
  rcases (show k = 0 ∨ k = 1 ∨ k = 2 by omega) with rfl | rfl | rfl
  · exact a0.elim h1 h2
  · exact a1.elim h1 h2
  · exact a2.elim h1 h2
theorem mxF_g {P : Nat → Bool} {v : Nat → Nat} {j m x : Nat} (h : m = mxF P v j) (hp : P j = true) (hx : v j = x) (hl : m < x) : x = mxF P v (j + 1) := by
  rw [mxF, if_pos ⟨hp, by rw [← h, hx]; exact hl⟩, hx]
theorem mxF_l {P : Nat → Bool} {v : Nat → Nat} {j m x : Nat} (h : m = mxF P v j) (hx : v j = x) (hl : x ≤ m) : m = mxF P v (j + 1) := by
  rw [mxF, if_neg (fun h9 => by have := h9.2; rw [hx, ← h] at this; omega)]
  exact h
theorem sfO_n {P : Nat → Bool} {v : Nat → Nat} {j : Nat} (h : ¬ P j = true) : sfO P v (j + 1) = sfO P v j := by rw [sfO, if_neg h]
theorem sfO_y {P : Nat → Bool} {v : Nat → Nat} {j : Nat} (h : P j = true) : sfO P v (j + 1) = stF v (sfO P v j) j := by rw [sfO, if_pos h]
theorem ro_lt : ∀ (L : List Nat) (v : Nat → Nat) (o : Option (Nat × Nat)), (∀ r ∈ L, r < 343) → roN o < 343 → roN (L.foldl (stF v) o) < 343
  | [], _, _, _, h => h
  | r :: L, v, o, hL, h => by
    refine ro_lt L v (stF v o r) (fun q hq => hL q (List.mem_cons_of_mem _ hq)) ?_
    have hr := hL r List.mem_cons_self
    unfold stF
    cases o with
    | none => exact hr
    | some q =>
      show roN (if v r < q.1 then some (v r, r) else some q) < 343
      split
      · exact hr
      · exact h
theorem cl_lt : ∀ n, n < 7 → ∀ A, A < 8 → (clL n A).all (fun r => decide (r < 343)) = true := by decide +kernel
theorem foC_ro {Wr : Nat → Nat} {an a d : Nat} (h8 : an < 8) (hd : d ≤ 6) : roN (foC Wr an a d) < 343 := by
  refine ro_lt (clL d an) _ none (fun r hr => ?_) (by show 0 < 343; decide)
  exact of_decide_eq_true (List.all_eq_true.mp (cl_lt d (by omega) an h8) r hr)
theorem le3 {w : Nat} (h : w ≤ 6) : (if nI w < 3 then nI w else 3) = nI (if 3 < w then 3 else w) := by
  rcases (show w = 0 ∨ w = 1 ∨ w = 2 ∨ w = 3 ∨ w = 4 ∨ w = 5 ∨ w = 6 by omega) with rfl | rfl | rfl | rfl | rfl | rfl | rfl <;> decide
set_option maxHeartbeats 4000000 in
set_option maxRecDepth 100000 in
theorem r_X11_digit (l : Launch) (g : he_G) (ro : Nat) (k : Nat) (hro : ro < 343) (hk : k < 3) : he_I l yX11_digit wsX11_digit 0 0 0 0 g [.int (nI ro), .int (nI k)] [] (fun (r : Int32) (u : Unit) => r = nI (dgt ro k)) (fun (u : Unit) => []) := by
  refine he_begin (l := l) (g := g) (y := yX11_digit) (wl := wsX11_digit) (fr := 0) (lo := 0) (mc := 0) (ms := 0) (av := [.int (nI ro), .int (nI k)]) (ws := []) (cc := cX11_digit) (maxL := 2) (ret := (some .int)) (fun A => va_Qi (fun (r : Int32) (u : Unit) => r = nI (dgt ro k)) (fun u t => he_post g A ((fun (u : Unit) => []) u) t) A) (by decide) rfl (Nat.le_of_ble_eq_true rfl) ?_
  intro p e s m args below meth c A ls H locs Q hQ hB
  obtain ⟨hx, hb, hr, hml, hown, hts, hlk, hin, hP, hK, hD, hS, hA, hE, hl⟩ := hB
  have hl : lv_has ls 2 [(0, .int (nI ro)), (1, .int (nI k))] := hl
  refine lv_iload_n hx hb dX11_digit_0 rfl (lv_at hl 1 rfl) ?_
  refine lv_if_ne (tgt := 11) hx hb dX11_digit_1 (by decide) (fun c_1 => ?_) (fun c_1 => ?_)
  · have k_2 : ¬ (k = 0) := fun h9 => c_1 ((he_ceq (a := k) (b := 0) rfl (by decide) (by omega) (by omega)).mpr h9)
    refine lv_iload_n hx hb dX11_digit_11 rfl (lv_at hl 1 rfl) ?_
    refine lv_iconst (v := 1) hx hb dX11_digit_12 (by decide) ?_
    refine lv_icmp_ne (tgt := 26) hx hb dX11_digit_13 (by decide) (fun c_3 => ?_) (fun c_3 => ?_)
    · have k_4 : ¬ (k = 1) := fun h9 => c_3 ((he_ceq (a := k) (b := 1) rfl (by decide) (by omega) (by omega)).mpr h9)
      refine lv_iload_n hx hb dX11_digit_26 rfl (lv_at hl 0 rfl) ?_
      refine lv_bipush (v := 7) hx hb dX11_digit_27 (by decide) ?_
      refine lv_irem hx hb dX11_digit_29 (by decide) ?_
      refine he_top (nI (ro % 7)) (dgF ro hro) ?_
      exact he_ri hQ hx hb hr hlk hP hD hS dX11_digit_30 (Nat.le_of_ble_eq_true rfl) (Nat.le_of_ble_eq_true rfl) (()) (rfl) ((congrArg nI (by unfold dgt; rw [if_neg (by omega), if_neg (by omega)])))
    · have k_5 : k = 1 := (he_ceq (a := k) (b := 1) rfl (by decide) (by omega) (by omega)).mp c_3
      refine lv_iload_n hx hb dX11_digit_16 rfl (lv_at hl 0 rfl) ?_
      refine lv_bipush (v := 7) hx hb dX11_digit_17 (by decide) ?_
      refine lv_idiv hx hb dX11_digit_19 (by decide) ?_
      refine he_top (nI ro / 7) rfl ?_
      refine lv_bipush (v := 7) hx hb dX11_digit_20 (by decide) ?_
      refine lv_irem hx hb dX11_digit_22 (by decide) ?_
      refine he_top (nI (ro / 7 % 7)) (dgE ro hro) ?_
      refine lv_goto (tgt := 30) hx hb dX11_digit_23 (by decide) ?_
      exact he_ri hQ hx hb hr hlk hP hD hS dX11_digit_30 (Nat.le_of_ble_eq_true rfl) (Nat.le_of_ble_eq_true rfl) (()) (rfl) ((congrArg nI (by unfold dgt; rw [if_neg (by omega), if_pos (by omega)])))
  · have k_6 : k = 0 := (he_ceq (a := k) (b := 0) rfl (by decide) (by omega) (by omega)).mp c_1
    refine lv_iload_n hx hb dX11_digit_4 rfl (lv_at hl 0 rfl) ?_
    refine lv_bipush (v := 49) hx hb dX11_digit_5 (by decide) ?_
    refine lv_idiv hx hb dX11_digit_7 (by decide) ?_
    refine he_top (nI (ro / 49)) (dgD ro hro) ?_
    refine lv_goto (tgt := 30) hx hb dX11_digit_8 (by decide) ?_
    exact he_ri hQ hx hb hr hlk hP hD hS dX11_digit_30 (Nat.le_of_ble_eq_true rfl) (Nat.le_of_ble_eq_true rfl) (()) (rfl) ((congrArg nI (by unfold dgt; rw [if_pos (by omega)])))
set_option maxHeartbeats 4000000 in
set_option maxRecDepth 100000 in
theorem r_X11_puts0 (l : Launch) (g : he_G) (ro : Nat) (n : Nat) (an : Nat) (hro : ro < 343) (han : an < 8) (hn6 : n ≤ 6) : he_I l yX11_puts0 wsX11_puts0 1 21 0 0 g [.int (nI ro), .int (nI n), .int (nI an)] [] (fun (r : Int32) (u : Unit) => r = puI ro n an) (fun (u : Unit) => []) := by
  refine he_begin (l := l) (g := g) (y := yX11_puts0) (wl := wsX11_puts0) (fr := 1) (lo := 21) (mc := 0) (ms := 0) (av := [.int (nI ro), .int (nI n), .int (nI an)]) (ws := []) (cc := cX11_puts0) (maxL := 5) (ret := (some .boolean)) (fun A => va_Qi (fun (r : Int32) (u : Unit) => r = puI ro n an) (fun u t => he_post g A ((fun (u : Unit) => []) u) t) A) (by decide) rfl (Nat.le_of_ble_eq_true rfl) ?_
  intro p e s m args below meth c A ls H locs Q hQ hB
  obtain ⟨hx, hb, hr, hml, hown, hts, hlk, hin, hP, hK, hD, hS, hA, hE, hl⟩ := hB
  have hl : lv_has ls 5 [(0, .int (nI ro)), (1, .int (nI n)), (2, .int (nI an))] := hl
  refine lv_iconst (v := 0) hx hb dX11_puts0_0 (by decide) ?_
  refine lv_istore_n (lv' := [(3, .int 0), (0, .int (nI ro)), (1, .int (nI n)), (2, .int (nI an))]) hx hb dX11_puts0_1 rfl hl (by decide) rfl (fun ls hl => ?_)
  refine lv_iconst (v := 0) hx hb dX11_puts0_2 (by decide) ?_
  refine lv_istore (lv' := [(4, .int 0), (3, .int 0), (0, .int (nI ro)), (1, .int (nI n)), (2, .int (nI an))]) hx hb dX11_puts0_3 hl (by decide) rfl (fun ls hl => ?_)
  have loop5 : ∀ (n9 : Nat) (j : Nat) (ac : Nat), 3 - j < n9 → (j ≤ 3) → (ac = sP (dgt ro) j) → (∀ k, k < j → bt an k = true ∨ dgt ro k = 0) → ∀ (H : Heap) (locs : List Loc) (ls : Array Slot), va_P g.1 vwCl [] H → va_D A [] → va_S A s.heap H locs → lv_has ls 5 [(0, .int (nI ro)), (1, .int (nI n)), (2, .int (nI an)), (3, .int (nI ac)), (4, .int (nI j))] → W p l e (he_room 1 21 0 0) s m args below meth c H locs 0 0 Q (F0 m 5 ls []) := by
    intro n9
    induction n9 with
    | zero => intro j ac hm9; exact absurd hm9 (Nat.not_lt_zero _)
    | succ n9 ih5 =>
      intro j ac hm9 hj hac hpl H locs ls hP hD hS hl
      refine lv_iload hx hb dX11_puts0_5 (lv_at hl 4 rfl) ?_
      refine lv_iconst (v := 3) hx hb dX11_puts0_7 (by decide) ?_
      refine lv_icmp_ge (tgt := 46) hx hb dX11_puts0_8 (by decide) (fun c_1 => ?_) (fun c_1 => ?_)
      · have k_2 : 3 ≤ j := (he_cle (a := 3) (b := j) (by decide) rfl (by omega) (by omega)).mp c_1
        refine lv_iload_n hx hb dX11_puts0_46 rfl (lv_at hl 3 rfl) ?_
        refine lv_iload_n hx hb dX11_puts0_47 rfl (lv_at hl 1 rfl) ?_
        have ha9 : ac = dgt ro 0 + dgt ro 1 + dgt ro 2 := sP_e hac hj (by omega)
        have hb0 := dgt_le hro 0
        have hb1 := dgt_le hro 1
        have hb2 := dgt_le hro 2
        refine lv_icmp_eq (tgt := 55) hx hb dX11_puts0_48 (by decide) (fun c_3 => ?_) (fun c_3 => ?_)
        · have k_4 : ac = n := (he_ceq (a := ac) (b := n) rfl rfl (by omega) (by omega)).mp c_3
          refine lv_iconst (v := 1) hx hb dX11_puts0_55 (by decide) ?_
          refine lv_goto (tgt := 60) hx hb dX11_puts0_56 (by decide) ?_
          exact he_rz hQ hx hb hr hlk hP hD hS dX11_puts0_60 (Nat.le_of_ble_eq_true rfl) (Nat.le_of_ble_eq_true rfl) rfl (()) (rfl) ((pu_1 (fun k9 h9 => hpl k9 (by omega)) (by omega)).symm)
        · have k_5 : ¬ (ac = n) := fun h9 => c_3 ((he_ceq (a := ac) (b := n) rfl rfl (by omega) (by omega)).mpr h9)
          refine lv_iload_n hx hb dX11_puts0_51 rfl (lv_at hl 2 rfl) ?_
          refine lv_if_ne (tgt := 59) hx hb dX11_puts0_52 (by decide) (fun c_6 => ?_) (fun c_6 => ?_)
          · have k_7 : ¬ (an = 0) := fun h9 => c_6 ((he_ceq (a := an) (b := 0) rfl (by decide) (by omega) (by omega)).mpr h9)
            refine lv_iconst (v := 0) hx hb dX11_puts0_59 (by decide) ?_
            exact he_rz hQ hx hb hr hlk hP hD hS dX11_puts0_60 (Nat.le_of_ble_eq_true rfl) (Nat.le_of_ble_eq_true rfl) rfl (()) (rfl) ((pu_0a (by omega) (by omega)).symm)
          · have k_8 : an = 0 := (he_ceq (a := an) (b := 0) rfl (by decide) (by omega) (by omega)).mp c_6
            refine lv_iconst (v := 1) hx hb dX11_puts0_55 (by decide) ?_
            refine lv_goto (tgt := 60) hx hb dX11_puts0_56 (by decide) ?_
            exact he_rz hQ hx hb hr hlk hP hD hS dX11_puts0_60 (Nat.le_of_ble_eq_true rfl) (Nat.le_of_ble_eq_true rfl) rfl (()) (rfl) ((pu_1 (fun k9 h9 => hpl k9 (by omega)) (by omega)).symm)
      · have k_9 : ¬ (3 ≤ j) := fun h9 => c_1 ((he_cle (a := 3) (b := j) (by decide) rfl (by omega) (by omega)).mpr h9)
        have join31 : ∀ (_ : Unit), (bt an j = true ∨ dgt ro j = 0) → ∀ (H : Heap) (locs : List Loc) (ls : Array Slot), va_P g.1 vwCl [] H → va_D A [] → va_S A s.heap H locs → lv_has ls 5 [(0, .int (nI ro)), (1, .int (nI n)), (2, .int (nI an)), (3, .int (nI ac)), (4, .int (nI j))] → W p l e (he_room 1 21 0 0) s m args below meth c H locs 0 0 Q (F0 m 31 ls []) := by
          intro _ hor H locs ls hP hD hS hl
          refine lv_iload_n hx hb dX11_puts0_31 rfl (lv_at hl 3 rfl) ?_
          refine lv_iload_n hx hb dX11_puts0_32 rfl (lv_at hl 0 rfl) ?_
          refine lv_iload hx hb dX11_puts0_33 (lv_at hl 4 rfl) ?_
          refine he_ci (wc := []) (wr := []) (va_runS (As := [.int (nI ro), .int (nI j)]) (rest := [.int (nI ac)]) ⟨hx, hb, hml, hown, hts⟩ (r_X11_digit l g ro j (by first | assumption | decide | omega) (by first | assumption | decide | omega) H.size) (va_cwS 2 hts gX11_puts0_X11_digit rfl rfl rfl (by decide +kernel) ⟨Nat.le_of_ble_eq_true rfl, Nat.le_of_ble_eq_true rfl⟩) (he_preS (wc := []) hK hP hD hS hA hE [] rfl rfl) rfl rfl hl.1 rfl (lv_room (Nat.le_of_ble_eq_true rfl)) dX11_puts0_35 ⟨(Nat.le_of_ble_eq_true rfl), (Nat.le_of_ble_eq_true rfl)⟩) hP hD hS hA [] [] rfl rfl rfl (by decide) (fun r_10 u_11 H locs h_12 hP hD hS => ?_)
          subst h_12
          have hP : va_P g.1 vwCl [] H := hP
          have hD : va_D A [] := hD
          refine lv_iadd hx hb dX11_puts0_38 ?_
          refine he_top (nI (ac + dgt ro j)) (nI_add ac (dgt ro j)) ?_
          refine lv_istore_n (lv' := [(3, .int (nI (ac + dgt ro j))), (0, .int (nI ro)), (1, .int (nI n)), (2, .int (nI an)), (4, .int (nI j))]) hx hb dX11_puts0_39 rfl hl (by decide) rfl (fun ls hl => ?_)
          refine lv_iinc (v := nI (j + 1)) (lv' := [(4, .int (nI (j + 1))), (3, .int (nI (ac + dgt ro j))), (0, .int (nI ro)), (1, .int (nI n)), (2, .int (nI an))]) hx hb dX11_puts0_40 hl (k := 4) rfl (nI_1 j) (by decide) rfl (fun ls hl => ?_)
          refine lv_goto (tgt := 5) hx hb dX11_puts0_43 (by decide) ?_
          exact ih5 (j + 1) (ac + dgt ro j) (by omega) (by omega) (sP_y hac rfl) (pl_s hpl hor) _ _ _ hP hD hS (lv_sub hl [2, 3, 4, 1, 0] rfl)
        refine lv_iload_n hx hb dX11_puts0_11 rfl (lv_at hl 2 rfl) ?_
        refine lv_iload hx hb dX11_puts0_12 (lv_at hl 4 rfl) ?_
        refine lv_ishr hx hb dX11_puts0_14 ?_
        refine lv_iconst (v := 1) hx hb dX11_puts0_15 (by decide) ?_
        refine lv_iand hx hb dX11_puts0_16 ?_
        refine he_top (bI an j) (bI_e an han j (by omega)) ?_
        refine lv_if_ne (tgt := 31) hx hb dX11_puts0_17 (by decide) (fun c_13 => ?_) (fun c_13 => ?_)
        · have hbt : bt an j = true := bI_n0 c_13
          exact join31 () (Or.inl hbt) _ _ _ hP hD hS (lv_sub hl [0, 1, 2, 3, 4] rfl)
        · have hbt : ¬ bt an j = true := bI_0 c_13
          refine lv_iload_n hx hb dX11_puts0_20 rfl (lv_at hl 0 rfl) ?_
          refine lv_iload hx hb dX11_puts0_21 (lv_at hl 4 rfl) ?_
          refine he_ci (wc := []) (wr := []) (va_runS (As := [.int (nI ro), .int (nI j)]) (rest := []) ⟨hx, hb, hml, hown, hts⟩ (r_X11_digit l g ro j (by first | assumption | decide | omega) (by first | assumption | decide | omega) H.size) (va_cwS 2 hts gX11_puts0_X11_digit rfl rfl rfl (by decide +kernel) ⟨Nat.le_of_ble_eq_true rfl, Nat.le_of_ble_eq_true rfl⟩) (he_preS (wc := []) hK hP hD hS hA hE [] rfl rfl) rfl rfl hl.1 rfl (lv_room (Nat.le_of_ble_eq_true rfl)) dX11_puts0_23 ⟨(Nat.le_of_ble_eq_true rfl), (Nat.le_of_ble_eq_true rfl)⟩) hP hD hS hA [] [] rfl rfl rfl (by decide) (fun r_14 u_15 H locs h_16 hP hD hS => ?_)
          subst h_16
          have hP : va_P g.1 vwCl [] H := hP
          have hD : va_D A [] := hD
          have hd9 := dgt_le hro j
          refine lv_if_le (tgt := 31) hx hb dX11_puts0_26 (by decide) (fun c_17 => ?_) (fun c_17 => ?_)
          · have k_18 : dgt ro j ≤ 0 := (he_cle (a := dgt ro j) (b := 0) rfl (by decide) (by omega) (by omega)).mp c_17
            exact join31 () (Or.inr (by omega)) _ _ _ hP hD hS (lv_sub hl [0, 1, 2, 3, 4] rfl)
          · have k_19 : ¬ (dgt ro j ≤ 0) := fun h9 => c_17 ((he_cle (a := dgt ro j) (b := 0) rfl (by decide) (by omega) (by omega)).mpr h9)
            refine lv_iconst (v := 0) hx hb dX11_puts0_29 (by decide) ?_
            exact he_rz hQ hx hb hr hlk hP hD hS dX11_puts0_30 (Nat.le_of_ble_eq_true rfl) (Nat.le_of_ble_eq_true rfl) rfl (()) (rfl) ((pu_0b (k := j) (by omega) hbt (by omega)).symm)
  exact loop5 ((3 - 0) + 1) 0 0 (Nat.lt_succ_self _) (Nat.zero_le _) rfl (fun k9 h9 => absurd h9 (Nat.not_lt_zero k9)) _ _ _ hP hD hS (lv_sub hl [2, 3, 4, 1, 0] rfl)
set_option maxHeartbeats 4000000 in
set_option maxRecDepth 100000 in
theorem r_X11_falls (l : Launch) (g : he_G) (m0 : Nat) (fd : Nat) (rfm : Nat) (rt_ : Nat) (to_ : Nat) (rw_ : Nat) (wa : Nat) (rk : Nat) (rb : Nat) (cn : Nat) (br : Nat) (sm : Nat) (as_ : Nat) (go : Nat) (sh_ : Nat) (ki : Nat) (tg : Nat) (of_ : Nat) (kp : Nat) (rs : Nat) (ta : Int32) (sz_ : Int32) (pl : Int32) (at_ : Int32) (fa : Int32) (fw : Int32) (cs : Int32) (ct : Int32) (ir : Int32) (oa : Int32) (ob : Int32) (th : Int32) (ig : Int32) (sp_ : Int32) (sf : Int32) (tw : Int32) (L : List Nat) (ln : Nat → Nat) (M : Nat → Nat → Int32) (r2 : Nat → Nat) (er : Nat) (dr_ : Nat) (an : Nat) (Wr : Nat → Nat) (F_r2 : ∀ i, i < 6 → r2 i ∈ L ∧ ln (r2 i) = 2 ∧ True) (her : er < 343) (hdr : dr_ < 343) (han : an < 8) (hWm : ∀ k, k < 3 → bt an k = true → M (r2 k) 0 = nI (Wr k)) (hW9 : ∀ k, Wr k ≤ 99) : he_I l yX11_falls wsX11_falls 1 21 0 0 g [.ref m0, .int (nI er), .int (nI dr_), .int (nI an)] ([(oX11 m0 tw ta sz_ pl at_ fa fw cs fd rfm rt_ to_ rw_ wa ct rk rb cn br sm as_ go sh_ ir oa ob th ig sp_ ki tg of_ kp sf rs), (aM g wa 6 (he_ro 6 r2))] ++ he_pl g L ln M) (fun (r : Int32) (u : Unit) => r = nI (fal Wr an (dgt er) (dgt dr_))) (fun (u : Unit) => [(oX11 m0 tw ta sz_ pl at_ fa fw cs fd rfm rt_ to_ rw_ wa ct rk rb cn br sm as_ go sh_ ir oa ob th ig sp_ ki tg of_ kp sf rs), (aM g wa 6 (he_ro 6 r2))] ++ he_pl g L ln M) := by
  refine he_begin (l := l) (g := g) (y := yX11_falls) (wl := wsX11_falls) (fr := 1) (lo := 21) (mc := 0) (ms := 0) (av := [.ref m0, .int (nI er), .int (nI dr_), .int (nI an)]) (ws := ([(oX11 m0 tw ta sz_ pl at_ fa fw cs fd rfm rt_ to_ rw_ wa ct rk rb cn br sm as_ go sh_ ir oa ob th ig sp_ ki tg of_ kp sf rs), (aM g wa 6 (he_ro 6 r2))] ++ he_pl g L ln M)) (cc := cX11_falls) (maxL := 6) (ret := (some .int)) (fun A => va_Qi (fun (r : Int32) (u : Unit) => r = nI (fal Wr an (dgt er) (dgt dr_))) (fun u t => he_post g A ((fun (u : Unit) => [(oX11 m0 tw ta sz_ pl at_ fa fw cs fd rfm rt_ to_ rw_ wa ct rk rb cn br sm as_ go sh_ ir oa ob th ig sp_ ki tg of_ kp sf rs), (aM g wa 6 (he_ro 6 r2))] ++ he_pl g L ln M) u) t) A) (by decide) rfl (Nat.le_of_ble_eq_true rfl) ?_
  intro p e s m args below meth c A ls H locs Q hQ hB
  obtain ⟨hx, hb, hr, hml, hown, hts, hlk, hin, hP, hK, hD, hS, hA, hE, hl⟩ := hB
  have hl : lv_has ls 6 [(0, .ref m0), (1, .int (nI er)), (2, .int (nI dr_)), (3, .int (nI an))] := hl
  have f31 := hts (.fieldLink RX11 31 "HiredEnemyModel" "wall" "[[I") (iwoX11_falls (k := 0) rfl)
  have inX11 : ∀ w ∈ wsX110, w ∈ wsX11_falls := innX11_falls_X11
  refine lv_iconst (v := 0) hx hb dX11_falls_0 (by decide) ?_
  refine lv_istore (lv' := [(4, .int 0), (0, .ref m0), (1, .int (nI er)), (2, .int (nI dr_)), (3, .int (nI an))]) hx hb dX11_falls_1 hl (by decide) rfl (fun ls hl => ?_)
  refine lv_iconst (v := 0) hx hb dX11_falls_3 (by decide) ?_
  refine lv_istore (lv' := [(5, .int 0), (4, .int 0), (0, .ref m0), (1, .int (nI er)), (2, .int (nI dr_)), (3, .int (nI an))]) hx hb dX11_falls_4 hl (by decide) rfl (fun ls hl => ?_)
  have loop6 : ∀ (n9 : Nat) (j : Nat) (ac : Nat), 3 - j < n9 → (j ≤ 3) → (ac = sP (fun k => if bt an k = true ∧ dgt dr_ k + Wr k / 25 < dgt er k then Wr k else 0) j) → ∀ (H : Heap) (locs : List Loc) (ls : Array Slot), va_P g.1 vwCl ([(oX11 m0 tw ta sz_ pl at_ fa fw cs fd rfm rt_ to_ rw_ wa ct rk rb cn br sm as_ go sh_ ir oa ob th ig sp_ ki tg of_ kp sf rs), (aM g wa 6 (he_ro 6 r2))] ++ he_pl g L ln M) H → va_D A ([(oX11 m0 tw ta sz_ pl at_ fa fw cs fd rfm rt_ to_ rw_ wa ct rk rb cn br sm as_ go sh_ ir oa ob th ig sp_ ki tg of_ kp sf rs), (aM g wa 6 (he_ro 6 r2))] ++ he_pl g L ln M) → va_S A s.heap H locs → lv_has ls 6 [(0, .ref m0), (1, .int (nI er)), (2, .int (nI dr_)), (3, .int (nI an)), (4, .int (nI ac)), (5, .int (nI j))] → W p l e (he_room 1 21 0 0) s m args below meth c H locs 0 0 Q (F0 m 6 ls []) := by
    intro n9
    induction n9 with
    | zero => intro j ac hm9; exact absurd hm9 (Nat.not_lt_zero _)
    | succ n9 ih6 =>
      intro j ac hm9 hj hac H locs ls hP hD hS hl
      refine lv_iload hx hb dX11_falls_6 (lv_at hl 5 rfl) ?_
      refine lv_iconst (v := 3) hx hb dX11_falls_8 (by decide) ?_
      refine lv_icmp_ge (tgt := 70) hx hb dX11_falls_9 (by decide) (fun c_1 => ?_) (fun c_1 => ?_)
      · have k_2 : 3 ≤ j := (he_cle (a := 3) (b := j) (by decide) rfl (by omega) (by omega)).mp c_1
        refine lv_iload hx hb dX11_falls_70 (lv_at hl 4 rfl) ?_
        exact he_ri hQ hx hb hr hlk hP hD hS dX11_falls_72 (Nat.le_of_ble_eq_true rfl) (Nat.le_of_ble_eq_true rfl) (()) (rfl) ((congrArg nI (sP_e hac hj (by omega))))
      · have k_3 : ¬ (3 ≤ j) := fun h9 => c_1 ((he_cle (a := 3) (b := j) (by decide) rfl (by omega) (by omega)).mpr h9)
        refine lv_iload_n hx hb dX11_falls_12 rfl (lv_at hl 3 rfl) ?_
        refine lv_iload hx hb dX11_falls_13 (lv_at hl 5 rfl) ?_
        refine lv_ishr hx hb dX11_falls_15 ?_
        refine lv_iconst (v := 1) hx hb dX11_falls_16 (by decide) ?_
        refine lv_iand hx hb dX11_falls_17 ?_
        refine he_top (bI an j) (bI_e an han j (by omega)) ?_
        refine lv_iconst (v := 1) hx hb dX11_falls_18 (by decide) ?_
        refine lv_icmp_ne (tgt := 64) hx hb dX11_falls_19 (by decide) (fun c_4 => ?_) (fun c_4 => ?_)
        · have hbt : ¬ bt an j = true := bI_n1 c_4
          refine lv_iinc (v := nI (j + 1)) (lv' := [(5, .int (nI (j + 1))), (0, .ref m0), (1, .int (nI er)), (2, .int (nI dr_)), (3, .int (nI an)), (4, .int (nI ac))]) hx hb dX11_falls_64 hl (k := 5) rfl (nI_1 j) (by decide) rfl (fun ls hl => ?_)
          refine lv_goto (tgt := 6) hx hb dX11_falls_67 (by decide) ?_
          exact ih6 (j + 1) ac (by omega) (by omega) (sP_n hac (if_neg (fun h9 => hbt h9.1))) _ _ _ hP hD hS (lv_sub hl [1, 2, 3, 4, 5, 0] rfl)
        · have hbt : bt an j = true := bI_1 c_4
          refine lv_iload_n hx hb dX11_falls_22 rfl (lv_at hl 1 rfl) ?_
          refine lv_iload hx hb dX11_falls_23 (lv_at hl 5 rfl) ?_
          refine he_ci (wc := []) (wr := ([(oX11 m0 tw ta sz_ pl at_ fa fw cs fd rfm rt_ to_ rw_ wa ct rk rb cn br sm as_ go sh_ ir oa ob th ig sp_ ki tg of_ kp sf rs), (aM g wa 6 (he_ro 6 r2))] ++ (he_pl g L ln M))) (va_runS (As := [.int (nI er), .int (nI j)]) (rest := []) ⟨hx, hb, hml, hown, hts⟩ (r_X11_digit l g er j (by first | assumption | decide | omega) (by first | assumption | decide | omega) H.size) (va_cwS 2 hts gX11_falls_X11_digit rfl rfl rfl (by decide +kernel) ⟨Nat.le_of_ble_eq_true rfl, Nat.le_of_ble_eq_true rfl⟩) (he_preS (wc := []) hK hP hD hS hA hE [] rfl rfl) rfl rfl hl.1 rfl (lv_room (Nat.le_of_ble_eq_true rfl)) dX11_falls_25 ⟨(Nat.le_of_ble_eq_true rfl), (Nat.le_of_ble_eq_true rfl)⟩) hP hD hS hA [] (he_is [0, 1] [(oX11 m0 tw ta sz_ pl at_ fa fw cs fd rfm rt_ to_ rw_ wa ct rk rb cn br sm as_ go sh_ ir oa ob th ig sp_ ki tg of_ kp sf rs), (aM g wa 6 (he_ro 6 r2))] (he_pl g L ln M)) rfl (he_ixP rfl) (he_ndP rfl rfl) (he_disN (by decide) rfl) (fun r_5 u_6 H locs h_7 hP hD hS => ?_)
          have hP := va_P.swap hP
          have hD := va_D.swap hD
          subst h_7
          have hP : va_P g.1 vwCl ([(oX11 m0 tw ta sz_ pl at_ fa fw cs fd rfm rt_ to_ rw_ wa ct rk rb cn br sm as_ go sh_ ir oa ob th ig sp_ ki tg of_ kp sf rs), (aM g wa 6 (he_ro 6 r2))] ++ he_pl g L ln M) H := hP
          have hD : va_D A ([(oX11 m0 tw ta sz_ pl at_ fa fw cs fd rfm rt_ to_ rw_ wa ct rk rb cn br sm as_ go sh_ ir oa ob th ig sp_ ki tg of_ kp sf rs), (aM g wa 6 (he_ro 6 r2))] ++ he_pl g L ln M) := hD
          refine lv_iload_n hx hb dX11_falls_28 rfl (lv_at hl 2 rfl) ?_
          refine lv_iload hx hb dX11_falls_29 (lv_at hl 5 rfl) ?_
          refine he_ci (wc := []) (wr := ([(oX11 m0 tw ta sz_ pl at_ fa fw cs fd rfm rt_ to_ rw_ wa ct rk rb cn br sm as_ go sh_ ir oa ob th ig sp_ ki tg of_ kp sf rs), (aM g wa 6 (he_ro 6 r2))] ++ (he_pl g L ln M))) (va_runS (As := [.int (nI dr_), .int (nI j)]) (rest := [.int (nI (dgt er j))]) ⟨hx, hb, hml, hown, hts⟩ (r_X11_digit l g dr_ j (by first | assumption | decide | omega) (by first | assumption | decide | omega) H.size) (va_cwS 2 hts gX11_falls_X11_digit rfl rfl rfl (by decide +kernel) ⟨Nat.le_of_ble_eq_true rfl, Nat.le_of_ble_eq_true rfl⟩) (he_preS (wc := []) hK hP hD hS hA hE [] rfl rfl) rfl rfl hl.1 rfl (lv_room (Nat.le_of_ble_eq_true rfl)) dX11_falls_31 ⟨(Nat.le_of_ble_eq_true rfl), (Nat.le_of_ble_eq_true rfl)⟩) hP hD hS hA [] (he_is [0, 1] [(oX11 m0 tw ta sz_ pl at_ fa fw cs fd rfm rt_ to_ rw_ wa ct rk rb cn br sm as_ go sh_ ir oa ob th ig sp_ ki tg of_ kp sf rs), (aM g wa 6 (he_ro 6 r2))] (he_pl g L ln M)) rfl (he_ixP rfl) (he_ndP rfl rfl) (he_disN (by decide) rfl) (fun r_8 u_9 H locs h_10 hP hD hS => ?_)
          have hP := va_P.swap hP
          have hD := va_D.swap hD
          subst h_10
          have hP : va_P g.1 vwCl ([(oX11 m0 tw ta sz_ pl at_ fa fw cs fd rfm rt_ to_ rw_ wa ct rk rb cn br sm as_ go sh_ ir oa ob th ig sp_ ki tg of_ kp sf rs), (aM g wa 6 (he_ro 6 r2))] ++ he_pl g L ln M) H := hP
          have hD : va_D A ([(oX11 m0 tw ta sz_ pl at_ fa fw cs fd rfm rt_ to_ rw_ wa ct rk rb cn br sm as_ go sh_ ir oa ob th ig sp_ ki tg of_ kp sf rs), (aM g wa 6 (he_ro 6 r2))] ++ he_pl g L ln M) := hD
          refine lv_aload_n hx hb dX11_falls_34 rfl (lv_at hl 0 rfl) ?_
          refine va_get (v := .ref wa) (T := TX11) (N := 35) hx hb hts inX11 hown hK hP 0 rfl rfl 13 (by decide) f31 (fun _ h9 => h9) rfl dX11_falls_35 ?_
          refine lv_iload hx hb dX11_falls_38 (lv_at hl 5 rfl) ?_
          refine he_aldm hx hb hK hP 1 rfl (j) rfl (by first | assumption | decide | omega) (by decide) dX11_falls_40 ?_
          refine lv_iconst (v := 0) hx hb dX11_falls_41 (by decide) ?_
          refine he_pald hx hb hK hP (F_r2 j (by first | assumption | decide | omega)).1 (0) (by decide) (by rw [(F_r2 j (by first | assumption | decide | omega)).2.1]; exact (by decide)) (by rw [(F_r2 j (by first | assumption | decide | omega)).2.1]; decide) (nI (Wr j)) (hWm j (by omega) hbt) dX11_falls_42 ?_
          refine lv_bipush (v := 25) hx hb dX11_falls_43 (by decide) ?_
          refine lv_idiv hx hb dX11_falls_45 (by decide) ?_
          refine he_top (nI (Wr j / 25)) (w25 (Wr j) (by have := hW9 j; omega)) ?_
          refine lv_iadd hx hb dX11_falls_46 ?_
          refine he_top (nI (dgt dr_ j + Wr j / 25)) (nI_add (dgt dr_ j) (Wr j / 25)) ?_
          have hd8 := dgt_le her j
          have hd9 := dgt_le hdr j
          have hw8 := hW9 j
          refine lv_icmp_le (tgt := 64) hx hb dX11_falls_47 (by decide) (fun c_11 => ?_) (fun c_11 => ?_)
          · have k_12 : dgt er j ≤ dgt dr_ j + Wr j / 25 := (he_cle (a := dgt er j) (b := dgt dr_ j + Wr j / 25) rfl rfl (by omega) (by omega)).mp c_11
            refine lv_iinc (v := nI (j + 1)) (lv' := [(5, .int (nI (j + 1))), (0, .ref m0), (1, .int (nI er)), (2, .int (nI dr_)), (3, .int (nI an)), (4, .int (nI ac))]) hx hb dX11_falls_64 hl (k := 5) rfl (nI_1 j) (by decide) rfl (fun ls hl => ?_)
            refine lv_goto (tgt := 6) hx hb dX11_falls_67 (by decide) ?_
            exact ih6 (j + 1) ac (by omega) (by omega) (sP_n hac (if_neg (fun h9 => absurd h9.2 (by omega)))) _ _ _ hP hD hS (lv_sub hl [1, 2, 3, 4, 5, 0] rfl)
          · have k_13 : ¬ (dgt er j ≤ dgt dr_ j + Wr j / 25) := fun h9 => c_11 ((he_cle (a := dgt er j) (b := dgt dr_ j + Wr j / 25) rfl rfl (by omega) (by omega)).mpr h9)
            refine lv_iload hx hb dX11_falls_50 (lv_at hl 4 rfl) ?_
            refine lv_aload_n hx hb dX11_falls_52 rfl (lv_at hl 0 rfl) ?_
            refine va_get (v := .ref wa) (T := TX11) (N := 35) hx hb hts inX11 hown hK hP 0 rfl rfl 13 (by decide) f31 (fun _ h9 => h9) rfl dX11_falls_53 ?_
            refine lv_iload hx hb dX11_falls_56 (lv_at hl 5 rfl) ?_
            refine he_aldm hx hb hK hP 1 rfl (j) rfl (by first | assumption | decide | omega) (by decide) dX11_falls_58 ?_
            refine lv_iconst (v := 0) hx hb dX11_falls_59 (by decide) ?_
            refine he_pald hx hb hK hP (F_r2 j (by first | assumption | decide | omega)).1 (0) (by decide) (by rw [(F_r2 j (by first | assumption | decide | omega)).2.1]; exact (by decide)) (by rw [(F_r2 j (by first | assumption | decide | omega)).2.1]; decide) (nI (Wr j)) (hWm j (by omega) hbt) dX11_falls_60 ?_
            refine lv_iadd hx hb dX11_falls_61 ?_
            refine he_top (nI (ac + Wr j)) (nI_add ac (Wr j)) ?_
            refine lv_istore (lv' := [(4, .int (nI (ac + Wr j))), (0, .ref m0), (1, .int (nI er)), (2, .int (nI dr_)), (3, .int (nI an)), (5, .int (nI j))]) hx hb dX11_falls_62 hl (by decide) rfl (fun ls hl => ?_)
            refine lv_iinc (v := nI (j + 1)) (lv' := [(5, .int (nI (j + 1))), (4, .int (nI (ac + Wr j))), (0, .ref m0), (1, .int (nI er)), (2, .int (nI dr_)), (3, .int (nI an))]) hx hb dX11_falls_64 hl (k := 5) rfl (nI_1 j) (by decide) rfl (fun ls hl => ?_)
            refine lv_goto (tgt := 6) hx hb dX11_falls_67 (by decide) ?_
            exact ih6 (j + 1) (ac + Wr j) (by omega) (by omega) (sP_y hac (if_pos ⟨hbt, by omega⟩)) _ _ _ hP hD hS (lv_sub hl [2, 3, 4, 5, 1, 0] rfl)
  exact loop6 ((3 - 0) + 1) 0 0 (Nat.lt_succ_self _) (Nat.zero_le _) rfl _ _ _ hP hD hS (lv_sub hl [2, 3, 4, 5, 1, 0] rfl)
set_option maxHeartbeats 4000000 in
set_option maxRecDepth 100000 in
theorem r_X11_firstWalls (l : Launch) (g : he_G) (m0 : Nat) (fd : Nat) (rfm : Nat) (rt_ : Nat) (to_ : Nat) (rw_ : Nat) (wa : Nat) (rk : Nat) (rb : Nat) (cn : Nat) (br : Nat) (sm : Nat) (as_ : Nat) (go : Nat) (sh_ : Nat) (ki : Nat) (tg : Nat) (of_ : Nat) (kp : Nat) (rs : Nat) (ta : Int32) (sz_ : Int32) (pl : Int32) (at_ : Int32) (fa : Int32) (fw : Int32) (cs : Int32) (ct : Int32) (ir : Int32) (oa : Int32) (ob : Int32) (th : Int32) (ig : Int32) (sp_ : Int32) (sf : Int32) (tw : Int32) (tl : Nat → Int32) (w : Nat) (v : Nat) (htl : tl 0 = nI w) (hw6 : w ≤ 6) (hv : v = if 3 < w then 3 else w) (hv3 : v ≤ 3) : he_I l yX11_firstWalls wsX11_firstWalls 1 21 0 0 g [.ref m0] [(oX11 m0 tw ta sz_ pl at_ fa fw cs fd rfm rt_ to_ rw_ wa ct rk rb cn br sm as_ go sh_ ir oa ob th ig sp_ ki tg of_ kp sf rs), (aI g to_ 25 tl)] (fun (r : Int32) (u : Unit) => r = nI (allN v)) (fun (u : Unit) => [(oX11 m0 tw ta sz_ pl at_ fa fw cs fd rfm rt_ to_ rw_ wa ct rk rb cn br sm as_ go sh_ ir oa ob th ig sp_ ki tg of_ kp sf rs), (aI g to_ 25 tl)]) := by
  refine he_begin (l := l) (g := g) (y := yX11_firstWalls) (wl := wsX11_firstWalls) (fr := 1) (lo := 21) (mc := 0) (ms := 0) (av := [.ref m0]) (ws := [(oX11 m0 tw ta sz_ pl at_ fa fw cs fd rfm rt_ to_ rw_ wa ct rk rb cn br sm as_ go sh_ ir oa ob th ig sp_ ki tg of_ kp sf rs), (aI g to_ 25 tl)]) (cc := cX11_firstWalls) (maxL := 1) (ret := (some .int)) (fun A => va_Qi (fun (r : Int32) (u : Unit) => r = nI (allN v)) (fun u t => he_post g A ((fun (u : Unit) => [(oX11 m0 tw ta sz_ pl at_ fa fw cs fd rfm rt_ to_ rw_ wa ct rk rb cn br sm as_ go sh_ ir oa ob th ig sp_ ki tg of_ kp sf rs), (aI g to_ 25 tl)]) u) t) A) (by decide) rfl (Nat.le_of_ble_eq_true rfl) ?_
  intro p e s m args below meth c A ls H locs Q hQ hB
  obtain ⟨hx, hb, hr, hml, hown, hts, hlk, hin, hP, hK, hD, hS, hA, hE, hl⟩ := hB
  have hl : lv_has ls 1 [(0, .ref m0)] := hl
  have f23 := hts (.fieldLink RX11 23 "HiredEnemyModel" "told" "[I") (iwoX11_firstWalls (k := 0) rfl)
  have inX11 : ∀ w ∈ wsX110, w ∈ wsX11_firstWalls := innX11_firstWalls_X11
  refine lv_iconst (v := 1) hx hb dX11_firstWalls_0 (by decide) ?_
  refine lv_iconst (v := 3) hx hb dX11_firstWalls_1 (by decide) ?_
  refine lv_aload_n hx hb dX11_firstWalls_2 rfl (lv_at hl 0 rfl) ?_
  refine va_get (v := .ref to_) (T := TX11) (N := 35) hx hb hts inX11 hown hK hP 0 rfl rfl 11 (by decide) f23 (fun _ h9 => h9) rfl dX11_firstWalls_3 ?_
  refine lv_iconst (v := 0) hx hb dX11_firstWalls_6 (by decide) ?_
  refine he_iald hx hb hK hP 1 rfl (0) (by decide) (by decide) (by first | decide | assumption) (nI w) htl dX11_firstWalls_7 ?_
  refine he_ci (wc := []) (wr := [(oX11 m0 tw ta sz_ pl at_ fa fw cs fd rfm rt_ to_ rw_ wa ct rk rb cn br sm as_ go sh_ ir oa ob th ig sp_ ki tg of_ kp sf rs), (aI g to_ 25 tl)]) (va_runS (As := [.int 3, .int (nI w)]) (rest := [.int 1]) ⟨hx, hb, hml, hown, hts⟩ (c_X11_less l g 3 (nI w) H.size) (va_cwS 2 hts gX11_firstWalls_X11_less rfl rfl rfl (by decide +kernel) ⟨Nat.le_of_ble_eq_true rfl, Nat.le_of_ble_eq_true rfl⟩) (he_preS (wc := []) hK hP hD hS hA hE [] rfl rfl) rfl rfl hl.1 rfl (lv_room (Nat.le_of_ble_eq_true rfl)) dX11_firstWalls_8 ⟨(Nat.le_of_ble_eq_true rfl), (Nat.le_of_ble_eq_true rfl)⟩) hP hD hS hA [] [0, 1] rfl rfl rfl (by decide) (fun r_1 u_2 H locs h_3 hP hD hS => ?_)
  subst h_3
  have hP : va_P g.1 vwCl [(oX11 m0 tw ta sz_ pl at_ fa fw cs fd rfm rt_ to_ rw_ wa ct rk rb cn br sm as_ go sh_ ir oa ob th ig sp_ ki tg of_ kp sf rs), (aI g to_ 25 tl)] H := hP
  have hD : va_D A [(oX11 m0 tw ta sz_ pl at_ fa fw cs fd rfm rt_ to_ rw_ wa ct rk rb cn br sm as_ go sh_ ir oa ob th ig sp_ ki tg of_ kp sf rs), (aI g to_ 25 tl)] := hD
  refine he_top (nI v) ((le3 hw6).trans (congrArg nI hv.symm)) ?_
  refine lv_ishl hx hb dX11_firstWalls_11 ?_
  refine lv_iconst (v := 1) hx hb dX11_firstWalls_12 (by decide) ?_
  refine lv_isub hx hb dX11_firstWalls_13 ?_
  refine he_top (nI (allN v)) (all_N hv3) ?_
  exact he_ri hQ hx hb hr hlk hP hD hS dX11_firstWalls_14 (Nat.le_of_ble_eq_true rfl) (Nat.le_of_ble_eq_true rfl) (()) (rfl) (rfl)
set_option maxHeartbeats 4000000 in
set_option maxRecDepth 100000 in
theorem r_X11_safeBy (l : Launch) (g : he_G) (m0 : Nat) (fd : Nat) (rfm : Nat) (rt_ : Nat) (to_ : Nat) (rw_ : Nat) (wa : Nat) (rk : Nat) (rb : Nat) (cn : Nat) (br : Nat) (sm : Nat) (as_ : Nat) (go : Nat) (sh_ : Nat) (ki : Nat) (tg : Nat) (of_ : Nat) (kp : Nat) (rs : Nat) (ta : Int32) (sz_ : Int32) (pl : Int32) (at_ : Int32) (fa : Int32) (fw : Int32) (cs : Int32) (ct : Int32) (ir : Int32) (oa : Int32) (ob : Int32) (th : Int32) (ig : Int32) (sp_ : Int32) (sf : Int32) (tw : Int32) (L : List Nat) (ln : Nat → Nat) (M : Nat → Nat → Int32) (r2 : Nat → Nat) (a : Nat) (d : Nat) (an : Nat) (Wr : Nat → Nat) (F_r2 : ∀ i, i < 6 → r2 i ∈ L ∧ ln (r2 i) = 2 ∧ True) (han : an < 8) (ha6 : a ≤ 6) (hd6 : d ≤ 6) (hWm : ∀ k, k < 3 → bt an k = true → M (r2 k) 0 = nI (Wr k)) (hW9 : ∀ k, Wr k ≤ 99) : he_I l yX11_safeBy wsX11_safeBy 2 46 0 0 g [.ref m0, .int (nI a), .int (nI d), .int (nI an)] ([(oX11 m0 tw ta sz_ pl at_ fa fw cs fd rfm rt_ to_ rw_ wa ct rk rb cn br sm as_ go sh_ ir oa ob th ig sp_ ki tg of_ kp sf rs), (aM g wa 6 (he_ro 6 r2))] ++ he_pl g L ln M) (fun (r : Int32) (u : Int32) => r = nI (leN (foC Wr an a d)) ∧ u = nI (roN (foC Wr an a d))) (fun (u : Int32) => [(oX11 m0 tw ta sz_ pl at_ fa fw cs fd rfm rt_ to_ rw_ wa ct rk rb cn br sm as_ go sh_ ir oa ob th ig sp_ ki tg of_ kp u rs), (aM g wa 6 (he_ro 6 r2))] ++ he_pl g L ln M) := by
  refine he_begin (l := l) (g := g) (y := yX11_safeBy) (wl := wsX11_safeBy) (fr := 2) (lo := 46) (mc := 0) (ms := 0) (av := [.ref m0, .int (nI a), .int (nI d), .int (nI an)]) (ws := ([(oX11 m0 tw ta sz_ pl at_ fa fw cs fd rfm rt_ to_ rw_ wa ct rk rb cn br sm as_ go sh_ ir oa ob th ig sp_ ki tg of_ kp sf rs), (aM g wa 6 (he_ro 6 r2))] ++ he_pl g L ln M)) (cc := cX11_safeBy) (maxL := 8) (ret := (some .int)) (fun A => va_Qi (fun (r : Int32) (u : Int32) => r = nI (leN (foC Wr an a d)) ∧ u = nI (roN (foC Wr an a d))) (fun u t => he_post g A ((fun (u : Int32) => [(oX11 m0 tw ta sz_ pl at_ fa fw cs fd rfm rt_ to_ rw_ wa ct rk rb cn br sm as_ go sh_ ir oa ob th ig sp_ ki tg of_ kp u rs), (aM g wa 6 (he_ro 6 r2))] ++ he_pl g L ln M) u) t) A) (by decide) rfl (Nat.le_of_ble_eq_true rfl) ?_
  intro p e s m args below meth c A ls H locs Q hQ hB
  obtain ⟨hx, hb, hr, hml, hown, hts, hlk, hin, hP, hK, hD, hS, hA, hE, hl⟩ := hB
  have hl : lv_has ls 8 [(0, .ref m0), (1, .int (nI a)), (2, .int (nI d)), (3, .int (nI an))] := hl
  have f244 := hts (.fieldLink RX11 244 "HiredEnemyModel" "safeRow" "I") (iwoX11_safeBy (k := 0) rfl)
  have inX11 : ∀ w ∈ wsX110, w ∈ wsX11_safeBy := innX11_safeBy_X11
  refine lv_iconst (v := (-1)) hx hb dX11_safeBy_0 (by decide) ?_
  refine lv_istore (lv' := [(4, .int (-1)), (0, .ref m0), (1, .int (nI a)), (2, .int (nI d)), (3, .int (nI an))]) hx hb dX11_safeBy_1 hl (by decide) rfl (fun ls hl => ?_)
  refine lv_aload_n hx hb dX11_safeBy_3 rfl (lv_at hl 1 rfl) ?_
  refine lv_iconst (v := 0) hx hb dX11_safeBy_4 (by decide) ?_
  refine va_put (v := .int 0) (ty := .int) (T := TX11) (N := 35) hx hb hts inX11 tyX11 tyX11_ok nmX11 hown hK hP hD hS 0 rfl rfl 33 (by decide) f244 (fun _ h9 => h9) rfl (by decide +kernel) rfl rfl (Nat.le_of_ble_eq_true rfl) dX11_safeBy_5 (fun H locs hP hD hS => ?_)
  have hP : va_P g.1 vwCl ([(oX11 m0 tw ta sz_ pl at_ fa fw cs fd rfm rt_ to_ rw_ wa ct rk rb cn br sm as_ go sh_ ir oa ob th ig sp_ ki tg of_ kp 0 rs), (aM g wa 6 (he_ro 6 r2))] ++ he_pl g L ln M) H := hP
  have hD : va_D A ([(oX11 m0 tw ta sz_ pl at_ fa fw cs fd rfm rt_ to_ rw_ wa ct rk rb cn br sm as_ go sh_ ir oa ob th ig sp_ ki tg of_ kp 0 rs), (aM g wa 6 (he_ro 6 r2))] ++ he_pl g L ln M) := hD
  refine lv_iconst (v := 0) hx hb dX11_safeBy_8 (by decide) ?_
  refine lv_istore (lv' := [(5, .int 0), (4, .int (-1)), (0, .ref m0), (1, .int (nI a)), (2, .int (nI d)), (3, .int (nI an))]) hx hb dX11_safeBy_9 hl (by decide) rfl (fun ls hl => ?_)
  have loop11 : ∀ (n9 : Nat) (j : Nat) (be : Int32) (sr : Int32), 343 - j < n9 → (j ≤ 343) → (be = leI (sfO (fun r9 => puB r9 d an) (vD Wr an a) j)) → (sr = nI (roN (sfO (fun r9 => puB r9 d an) (vD Wr an a) j))) → ∀ (H : Heap) (locs : List Loc) (ls : Array Slot), va_P g.1 vwCl ([(oX11 m0 tw ta sz_ pl at_ fa fw cs fd rfm rt_ to_ rw_ wa ct rk rb cn br sm as_ go sh_ ir oa ob th ig sp_ ki tg of_ kp sr rs), (aM g wa 6 (he_ro 6 r2))] ++ he_pl g L ln M) H → va_D A ([(oX11 m0 tw ta sz_ pl at_ fa fw cs fd rfm rt_ to_ rw_ wa ct rk rb cn br sm as_ go sh_ ir oa ob th ig sp_ ki tg of_ kp sr rs), (aM g wa 6 (he_ro 6 r2))] ++ he_pl g L ln M) → va_S A s.heap H locs → lv_has ls 8 [(0, .ref m0), (1, .int (nI a)), (2, .int (nI d)), (3, .int (nI an)), (4, .int be), (5, .int (nI j))] → W p l e (he_room 2 46 0 0) s m args below meth c H locs 0 0 Q (F0 m 11 ls []) := by
    intro n9
    induction n9 with
    | zero => intro j be sr hm9; exact absurd hm9 (Nat.not_lt_zero _)
    | succ n9 ih11 =>
      intro j be sr hm9 hj hbe hsr H locs ls hP hD hS hl
      refine lv_iload hx hb dX11_safeBy_11 (lv_at hl 5 rfl) ?_
      refine lv_sipush (v := 343) hx hb dX11_safeBy_13 (by decide) ?_
      refine lv_icmp_ge (tgt := 124) hx hb dX11_safeBy_16 (by decide) (fun c_1 => ?_) (fun c_1 => ?_)
      · have k_2 : 343 ≤ j := (he_cle (a := 343) (b := j) (by decide) rfl (by omega) (by omega)).mp c_1
        refine lv_iload hx hb dX11_safeBy_124 (lv_at hl 4 rfl) ?_
        exact he_ri hQ hx hb hr hlk hP hD hS dX11_safeBy_126 (Nat.le_of_ble_eq_true rfl) (Nat.le_of_ble_eq_true rfl) (sr) (rfl) (⟨hbe.trans (by rw [show j = 343 by omega]; exact (safe_eq han ha6 hd6).1), hsr.trans (by rw [show j = 343 by omega]; exact congrArg nI (safe_eq han ha6 hd6).2)⟩)
      · have k_3 : ¬ (343 ≤ j) := fun h9 => c_1 ((he_cle (a := 343) (b := j) (by decide) rfl (by omega) (by omega)).mpr h9)
        refine lv_iload hx hb dX11_safeBy_19 (lv_at hl 5 rfl) ?_
        refine lv_iload_n hx hb dX11_safeBy_21 rfl (lv_at hl 2 rfl) ?_
        refine lv_iload_n hx hb dX11_safeBy_22 rfl (lv_at hl 3 rfl) ?_
        refine he_ci (wc := []) (wr := ([(oX11 m0 tw ta sz_ pl at_ fa fw cs fd rfm rt_ to_ rw_ wa ct rk rb cn br sm as_ go sh_ ir oa ob th ig sp_ ki tg of_ kp sr rs), (aM g wa 6 (he_ro 6 r2))] ++ (he_pl g L ln M))) (va_runS (As := [.int (nI j), .int (nI d), .int (nI an)]) (rest := []) ⟨hx, hb, hml, hown, hts⟩ (r_X11_puts0 l g j d an (by first | assumption | decide | omega) (by first | assumption | decide | omega) (by first | assumption | decide | omega) H.size) (va_cwS 3 hts gX11_safeBy_X11_puts0 rfl rfl rfl (by decide +kernel) ⟨Nat.le_of_ble_eq_true rfl, Nat.le_of_ble_eq_true rfl⟩) (he_preS (wc := []) hK hP hD hS hA hE [] rfl rfl) rfl rfl hl.1 rfl (lv_room (Nat.le_of_ble_eq_true rfl)) dX11_safeBy_23 ⟨(Nat.le_of_ble_eq_true rfl), (Nat.le_of_ble_eq_true rfl)⟩) hP hD hS hA [] (he_is [0, 1] [(oX11 m0 tw ta sz_ pl at_ fa fw cs fd rfm rt_ to_ rw_ wa ct rk rb cn br sm as_ go sh_ ir oa ob th ig sp_ ki tg of_ kp sr rs), (aM g wa 6 (he_ro 6 r2))] (he_pl g L ln M)) rfl (he_ixP rfl) (he_ndP rfl rfl) (he_disN (by decide) rfl) (fun r_4 u_5 H locs h_6 hP hD hS => ?_)
        have hP := va_P.swap hP
        have hD := va_D.swap hD
        subst h_6
        have hP : va_P g.1 vwCl ([(oX11 m0 tw ta sz_ pl at_ fa fw cs fd rfm rt_ to_ rw_ wa ct rk rb cn br sm as_ go sh_ ir oa ob th ig sp_ ki tg of_ kp sr rs), (aM g wa 6 (he_ro 6 r2))] ++ he_pl g L ln M) H := hP
        have hD : va_D A ([(oX11 m0 tw ta sz_ pl at_ fa fw cs fd rfm rt_ to_ rw_ wa ct rk rb cn br sm as_ go sh_ ir oa ob th ig sp_ ki tg of_ kp sr rs), (aM g wa 6 (he_ro 6 r2))] ++ he_pl g L ln M) := hD
        refine lv_if_ne (tgt := 32) hx hb dX11_safeBy_26 (by decide) (fun c_7 => ?_) (fun c_7 => ?_)
        · have hpu : puB j d an = true := puI_y c_7
          refine lv_iconst (v := 0) hx hb dX11_safeBy_32 (by decide) ?_
          refine lv_istore (lv' := [(6, .int 0), (0, .ref m0), (1, .int (nI a)), (2, .int (nI d)), (3, .int (nI an)), (4, .int be), (5, .int (nI j))]) hx hb dX11_safeBy_33 hl (by decide) rfl (fun ls hl => ?_)
          refine lv_iconst (v := 0) hx hb dX11_safeBy_35 (by decide) ?_
          refine lv_istore (lv' := [(7, .int 0), (6, .int 0), (0, .ref m0), (1, .int (nI a)), (2, .int (nI d)), (3, .int (nI an)), (4, .int be), (5, .int (nI j))]) hx hb dX11_safeBy_36 hl (by decide) rfl (fun ls hl => ?_)
          have loop38 : ∀ (n9 : Nat) (i : Nat) (wo : Nat), 343 - i < n9 → (i ≤ 343) → (wo = mxF (fun r9 => puB r9 a an) (fun r9 => fal Wr an (dgt r9) (dgt j)) i) → ∀ (H : Heap) (locs : List Loc) (ls : Array Slot), va_P g.1 vwCl ([(oX11 m0 tw ta sz_ pl at_ fa fw cs fd rfm rt_ to_ rw_ wa ct rk rb cn br sm as_ go sh_ ir oa ob th ig sp_ ki tg of_ kp sr rs), (aM g wa 6 (he_ro 6 r2))] ++ he_pl g L ln M) H → va_D A ([(oX11 m0 tw ta sz_ pl at_ fa fw cs fd rfm rt_ to_ rw_ wa ct rk rb cn br sm as_ go sh_ ir oa ob th ig sp_ ki tg of_ kp sr rs), (aM g wa 6 (he_ro 6 r2))] ++ he_pl g L ln M) → va_S A s.heap H locs → lv_has ls 8 [(0, .ref m0), (1, .int (nI a)), (2, .int (nI d)), (3, .int (nI an)), (4, .int be), (5, .int (nI j)), (6, .int (nI wo)), (7, .int (nI i))] → W p l e (he_room 2 46 0 0) s m args below meth c H locs 0 0 Q (F0 m 38 ls []) := by
            intro n9
            induction n9 with
            | zero => intro i wo hm9; exact absurd hm9 (Nat.not_lt_zero _)
            | succ n9 ih38 =>
              intro i wo hm9 hi hwo H locs ls hP hD hS hl
              refine lv_iload hx hb dX11_safeBy_38 (lv_at hl 7 rfl) ?_
              refine lv_sipush (v := 343) hx hb dX11_safeBy_40 (by decide) ?_
              refine lv_icmp_ge (tgt := 92) hx hb dX11_safeBy_43 (by decide) (fun c_8 => ?_) (fun c_8 => ?_)
              · have k_9 : 343 ≤ i := (he_cle (a := 343) (b := i) (by decide) rfl (by omega) (by omega)).mp c_8
                have hwV : wo = vD Wr an a j := by rw [hwo, show i = 343 by omega]; rfl
                have join108 : ∀ (_ : Unit), ((sfO (fun r9 => puB r9 d an) (vD Wr an a) (j + 1)) = some (wo, j)) → ∀ (H : Heap) (locs : List Loc) (ls : Array Slot), va_P g.1 vwCl ([(oX11 m0 tw ta sz_ pl at_ fa fw cs fd rfm rt_ to_ rw_ wa ct rk rb cn br sm as_ go sh_ ir oa ob th ig sp_ ki tg of_ kp sr rs), (aM g wa 6 (he_ro 6 r2))] ++ he_pl g L ln M) H → va_D A ([(oX11 m0 tw ta sz_ pl at_ fa fw cs fd rfm rt_ to_ rw_ wa ct rk rb cn br sm as_ go sh_ ir oa ob th ig sp_ ki tg of_ kp sr rs), (aM g wa 6 (he_ro 6 r2))] ++ he_pl g L ln M) → va_S A s.heap H locs → lv_has ls 8 [(0, .ref m0), (1, .int (nI a)), (2, .int (nI d)), (3, .int (nI an)), (4, .int be), (5, .int (nI j)), (6, .int (nI wo)), (7, .int (nI i))] → W p l e (he_room 2 46 0 0) s m args below meth c H locs 0 0 Q (F0 m 108 ls []) := by
                  intro _ hup H locs ls hP hD hS hl
                  refine lv_iload hx hb dX11_safeBy_108 (lv_at hl 6 rfl) ?_
                  refine lv_istore (lv' := [(4, .int (nI wo)), (0, .ref m0), (1, .int (nI a)), (2, .int (nI d)), (3, .int (nI an)), (5, .int (nI j)), (6, .int (nI wo)), (7, .int (nI i))]) hx hb dX11_safeBy_110 hl (by decide) rfl (fun ls hl => ?_)
                  refine lv_aload_n hx hb dX11_safeBy_112 rfl (lv_at hl 1 rfl) ?_
                  refine lv_iload hx hb dX11_safeBy_113 (lv_at hl 5 rfl) ?_
                  refine va_put (v := .int (nI j)) (ty := .int) (T := TX11) (N := 35) hx hb hts inX11 tyX11 tyX11_ok nmX11 hown hK hP hD hS 0 rfl rfl 33 (by decide) f244 (fun _ h9 => h9) rfl (by decide +kernel) rfl rfl (Nat.le_of_ble_eq_true rfl) dX11_safeBy_115 (fun H locs hP hD hS => ?_)
                  have hP : va_P g.1 vwCl ([(oX11 m0 tw ta sz_ pl at_ fa fw cs fd rfm rt_ to_ rw_ wa ct rk rb cn br sm as_ go sh_ ir oa ob th ig sp_ ki tg of_ kp (nI j) rs), (aM g wa 6 (he_ro 6 r2))] ++ he_pl g L ln M) H := hP
                  have hD : va_D A ([(oX11 m0 tw ta sz_ pl at_ fa fw cs fd rfm rt_ to_ rw_ wa ct rk rb cn br sm as_ go sh_ ir oa ob th ig sp_ ki tg of_ kp (nI j) rs), (aM g wa 6 (he_ro 6 r2))] ++ he_pl g L ln M) := hD
                  refine lv_iinc (v := nI (j + 1)) (lv' := [(5, .int (nI (j + 1))), (4, .int (nI wo)), (0, .ref m0), (1, .int (nI a)), (2, .int (nI d)), (3, .int (nI an)), (6, .int (nI wo)), (7, .int (nI i))]) hx hb dX11_safeBy_118 hl (k := 5) rfl (nI_1 j) (by decide) rfl (fun ls hl => ?_)
                  refine lv_goto (tgt := 11) hx hb dX11_safeBy_121 (by decide) ?_
                  exact ih11 (j + 1) (nI wo) (nI j) (by omega) (by omega) (by rw [hup]; rfl) (by rw [hup]; rfl) _ _ _ hP hD hS (lv_sub hl [2, 3, 4, 5, 1, 0] rfl)
                refine lv_iload hx hb dX11_safeBy_92 (lv_at hl 4 rfl) ?_
                refine lv_iconst (v := (-1)) hx hb dX11_safeBy_94 (by decide) ?_
                refine lv_icmp_eq (tgt := 108) hx hb dX11_safeBy_95 (by decide) (fun c_10 => ?_) (fun c_10 => ?_)
                · exact join108 () (by rw [sfO_y (P := (fun r9 => puB r9 d an)) (j := j) hpu, hwV]; exact st_y (v := (vD Wr an a)) (bo_sf (B := 297) (P := (fun r9 => puB r9 d an)) (fun r9 => vD_le hW9 an a r9) j) (by decide) (Nat.lt_of_le_of_lt (vD_le hW9 an a j) (by decide)) (Or.inl (by rw [← hbe]; exact c_10))) _ _ _ hP hD hS (lv_sub hl [0, 1, 2, 3, 4, 5, 6, 7] rfl)
                · refine lv_iload hx hb dX11_safeBy_98 (lv_at hl 6 rfl) ?_
                  refine lv_iload hx hb dX11_safeBy_100 (lv_at hl 4 rfl) ?_
                  refine lv_icmp_lt (tgt := 108) hx hb dX11_safeBy_102 (by decide) (fun c_11 => ?_) (fun c_11 => ?_)
                  · exact join108 () (by rw [sfO_y (P := (fun r9 => puB r9 d an)) (j := j) hpu, hwV]; exact st_y (v := (vD Wr an a)) (bo_sf (B := 297) (P := (fun r9 => puB r9 d an)) (fun r9 => vD_le hW9 an a r9) j) (by decide) (Nat.lt_of_le_of_lt (vD_le hW9 an a j) (by decide)) (Or.inr (by rw [← hbe, ← hwV]; exact Int32.not_le.mpr c_11))) _ _ _ hP hD hS (lv_sub hl [0, 1, 2, 3, 4, 5, 6, 7] rfl)
                  · refine lv_goto (tgt := 118) hx hb dX11_safeBy_105 (by decide) ?_
                    refine lv_iinc (v := nI (j + 1)) (lv' := [(5, .int (nI (j + 1))), (0, .ref m0), (1, .int (nI a)), (2, .int (nI d)), (3, .int (nI an)), (4, .int be), (6, .int (nI wo)), (7, .int (nI i))]) hx hb dX11_safeBy_118 hl (k := 5) rfl (nI_1 j) (by decide) rfl (fun ls hl => ?_)
                    refine lv_goto (tgt := 11) hx hb dX11_safeBy_121 (by decide) ?_
                    exact ih11 (j + 1) be sr (by omega) (by omega) (by rw [(sfO_y (P := (fun r9 => puB r9 d an)) (j := j) hpu).trans (st_n (v := (vD Wr an a)) (bo_sf (B := 297) (P := (fun r9 => puB r9 d an)) (fun r9 => vD_le hW9 an a r9) j) (by decide) (Nat.lt_of_le_of_lt (vD_le hW9 an a j) (by decide)) (by rw [← hbe]; exact c_10) (by rw [← hbe, ← hwV]; exact Int32.not_lt.mp c_11))]; exact hbe) (by rw [(sfO_y (P := (fun r9 => puB r9 d an)) (j := j) hpu).trans (st_n (v := (vD Wr an a)) (bo_sf (B := 297) (P := (fun r9 => puB r9 d an)) (fun r9 => vD_le hW9 an a r9) j) (by decide) (Nat.lt_of_le_of_lt (vD_le hW9 an a j) (by decide)) (by rw [← hbe]; exact c_10) (by rw [← hbe, ← hwV]; exact Int32.not_lt.mp c_11))]; exact hsr) _ _ _ hP hD hS (lv_sub hl [1, 2, 3, 4, 5, 0] rfl)
              · have k_12 : ¬ (343 ≤ i) := fun h9 => c_8 ((he_cle (a := 343) (b := i) (by decide) rfl (by omega) (by omega)).mpr h9)
                have join84 : ∀ (tv : Nat), (tv = mxF (fun r9 => puB r9 a an) (fun r9 => fal Wr an (dgt r9) (dgt j)) (i + 1)) → ∀ (H : Heap) (locs : List Loc) (ls : Array Slot), va_P g.1 vwCl ([(oX11 m0 tw ta sz_ pl at_ fa fw cs fd rfm rt_ to_ rw_ wa ct rk rb cn br sm as_ go sh_ ir oa ob th ig sp_ ki tg of_ kp sr rs), (aM g wa 6 (he_ro 6 r2))] ++ he_pl g L ln M) H → va_D A ([(oX11 m0 tw ta sz_ pl at_ fa fw cs fd rfm rt_ to_ rw_ wa ct rk rb cn br sm as_ go sh_ ir oa ob th ig sp_ ki tg of_ kp sr rs), (aM g wa 6 (he_ro 6 r2))] ++ he_pl g L ln M) → va_S A s.heap H locs → lv_has ls 8 [(0, .ref m0), (1, .int (nI a)), (2, .int (nI d)), (3, .int (nI an)), (4, .int be), (5, .int (nI j)), (6, .int (nI wo)), (7, .int (nI i))] → W p l e (he_room 2 46 0 0) s m args below meth c H locs 0 0 Q (F0 m 84 ls [.int (nI tv)]) := by
                  intro tv htv H locs ls hP hD hS hl
                  refine lv_istore (lv' := [(6, .int (nI tv)), (0, .ref m0), (1, .int (nI a)), (2, .int (nI d)), (3, .int (nI an)), (4, .int be), (5, .int (nI j)), (7, .int (nI i))]) hx hb dX11_safeBy_84 hl (by decide) rfl (fun ls hl => ?_)
                  refine lv_iinc (v := nI (i + 1)) (lv' := [(7, .int (nI (i + 1))), (6, .int (nI tv)), (0, .ref m0), (1, .int (nI a)), (2, .int (nI d)), (3, .int (nI an)), (4, .int be), (5, .int (nI j))]) hx hb dX11_safeBy_86 hl (k := 7) rfl (nI_1 i) (by decide) rfl (fun ls hl => ?_)
                  refine lv_goto (tgt := 38) hx hb dX11_safeBy_89 (by decide) ?_
                  exact ih38 (i + 1) tv (by omega) (by omega) htv _ _ _ hP hD hS (lv_sub hl [2, 3, 4, 5, 6, 7, 1, 0] rfl)
                refine lv_iload hx hb dX11_safeBy_46 (lv_at hl 7 rfl) ?_
                refine lv_iload_n hx hb dX11_safeBy_48 rfl (lv_at hl 1 rfl) ?_
                refine lv_iload_n hx hb dX11_safeBy_49 rfl (lv_at hl 3 rfl) ?_
                refine he_ci (wc := []) (wr := ([(oX11 m0 tw ta sz_ pl at_ fa fw cs fd rfm rt_ to_ rw_ wa ct rk rb cn br sm as_ go sh_ ir oa ob th ig sp_ ki tg of_ kp sr rs), (aM g wa 6 (he_ro 6 r2))] ++ (he_pl g L ln M))) (va_runS (As := [.int (nI i), .int (nI a), .int (nI an)]) (rest := []) ⟨hx, hb, hml, hown, hts⟩ (r_X11_puts0 l g i a an (by first | assumption | decide | omega) (by first | assumption | decide | omega) (by first | assumption | decide | omega) H.size) (va_cwS 3 hts gX11_safeBy_X11_puts0 rfl rfl rfl (by decide +kernel) ⟨Nat.le_of_ble_eq_true rfl, Nat.le_of_ble_eq_true rfl⟩) (he_preS (wc := []) hK hP hD hS hA hE [] rfl rfl) rfl rfl hl.1 rfl (lv_room (Nat.le_of_ble_eq_true rfl)) dX11_safeBy_50 ⟨(Nat.le_of_ble_eq_true rfl), (Nat.le_of_ble_eq_true rfl)⟩) hP hD hS hA [] (he_is [0, 1] [(oX11 m0 tw ta sz_ pl at_ fa fw cs fd rfm rt_ to_ rw_ wa ct rk rb cn br sm as_ go sh_ ir oa ob th ig sp_ ki tg of_ kp sr rs), (aM g wa 6 (he_ro 6 r2))] (he_pl g L ln M)) rfl (he_ixP rfl) (he_ndP rfl rfl) (he_disN (by decide) rfl) (fun r_13 u_14 H locs h_15 hP hD hS => ?_)
                have hP := va_P.swap hP
                have hD := va_D.swap hD
                subst h_15
                have hP : va_P g.1 vwCl ([(oX11 m0 tw ta sz_ pl at_ fa fw cs fd rfm rt_ to_ rw_ wa ct rk rb cn br sm as_ go sh_ ir oa ob th ig sp_ ki tg of_ kp sr rs), (aM g wa 6 (he_ro 6 r2))] ++ he_pl g L ln M) H := hP
                have hD : va_D A ([(oX11 m0 tw ta sz_ pl at_ fa fw cs fd rfm rt_ to_ rw_ wa ct rk rb cn br sm as_ go sh_ ir oa ob th ig sp_ ki tg of_ kp sr rs), (aM g wa 6 (he_ro 6 r2))] ++ he_pl g L ln M) := hD
                refine lv_if_eq (tgt := 82) hx hb dX11_safeBy_53 (by decide) (fun c_16 => ?_) (fun c_16 => ?_)
                · have hqu : ¬ puB i a an = true := puI_n c_16
                  refine lv_iload hx hb dX11_safeBy_82 (lv_at hl 6 rfl) ?_
                  exact join84 wo (mxF_n hwo hqu) _ _ _ hP hD hS (lv_sub hl [0, 1, 2, 3, 4, 5, 6, 7] rfl)
                · have hqu : puB i a an = true := puI_y c_16
                  refine lv_aload_n hx hb dX11_safeBy_56 rfl (lv_at hl 0 rfl) ?_
                  refine lv_iload hx hb dX11_safeBy_57 (lv_at hl 7 rfl) ?_
                  refine lv_iload hx hb dX11_safeBy_59 (lv_at hl 5 rfl) ?_
                  refine lv_iload_n hx hb dX11_safeBy_61 rfl (lv_at hl 3 rfl) ?_
                  refine he_ci (wc := ([(oX11 m0 tw ta sz_ pl at_ fa fw cs fd rfm rt_ to_ rw_ wa ct rk rb cn br sm as_ go sh_ ir oa ob th ig sp_ ki tg of_ kp sr rs), (aM g wa 6 (he_ro 6 r2))] ++ (he_pl g L ln M))) (wr := []) (va_runV (As := [.int (nI i), .int (nI j), .int (nI an)]) (rest := []) ⟨hx, hb, hml, hown, hts⟩ (r_X11_falls l g m0 fd rfm rt_ to_ rw_ wa rk rb cn br sm as_ go sh_ ki tg of_ kp rs ta sz_ pl at_ fa fw cs ct ir oa ob th ig sp_ sr tw L ln M r2 i j an Wr (by first | assumption | decide | omega) (by first | assumption | decide | omega) (by first | assumption | decide | omega) (by first | assumption | decide | omega) (by first | assumption | decide | omega) (by first | assumption | decide | omega) H.size) (cwV 3 hts gX11_safeBy_X11_falls rfl rfl rfl (by decide +kernel) ⟨Nat.le_of_ble_eq_true rfl, Nat.le_of_ble_eq_true rfl⟩) (he_preV (wc := ([(oX11 m0 tw ta sz_ pl at_ fa fw cs fd rfm rt_ to_ rw_ wa ct rk rb cn br sm as_ go sh_ ir oa ob th ig sp_ ki tg of_ kp sr rs), (aM g wa 6 (he_ro 6 r2))] ++ (he_pl g L ln M))) hK hP hD hS hA hE (he_is [0, 1] [(oX11 m0 tw ta sz_ pl at_ fa fw cs fd rfm rt_ to_ rw_ wa ct rk rb cn br sm as_ go sh_ ir oa ob th ig sp_ ki tg of_ kp sr rs), (aM g wa 6 (he_ro 6 r2))] (he_pl g L ln M)) (he_ixP rfl) (he_ndP rfl rfl) 0 rfl rfl) rfl rfl hl.1 rfl (lv_room (Nat.le_of_ble_eq_true rfl)) dX11_safeBy_62 ⟨(Nat.le_of_ble_eq_true rfl), (Nat.le_of_ble_eq_true rfl)⟩) hP hD hS hA (he_is [0, 1] [(oX11 m0 tw ta sz_ pl at_ fa fw cs fd rfm rt_ to_ rw_ wa ct rk rb cn br sm as_ go sh_ ir oa ob th ig sp_ ki tg of_ kp sr rs), (aM g wa 6 (he_ro 6 r2))] (he_pl g L ln M)) [] (he_ixP rfl) rfl rfl (he_disP (by decide) rfl) (fun r_17 u_18 H locs h_19 hP hD hS => ?_)
                  subst h_19
                  have hP : va_P g.1 vwCl ([(oX11 m0 tw ta sz_ pl at_ fa fw cs fd rfm rt_ to_ rw_ wa ct rk rb cn br sm as_ go sh_ ir oa ob th ig sp_ ki tg of_ kp sr rs), (aM g wa 6 (he_ro 6 r2))] ++ he_pl g L ln M) H := hP
                  have hD : va_D A ([(oX11 m0 tw ta sz_ pl at_ fa fw cs fd rfm rt_ to_ rw_ wa ct rk rb cn br sm as_ go sh_ ir oa ob th ig sp_ ki tg of_ kp sr rs), (aM g wa 6 (he_ro 6 r2))] ++ he_pl g L ln M) := hD
                  refine lv_iload hx hb dX11_safeBy_65 (lv_at hl 6 rfl) ?_
                  have hf9 := fal_le (Wr := Wr) (e := dgt i) (p := dgt j) (an := an) hW9
                  have hw9 : wo ≤ 297 := by rw [hwo]; exact mx_le i (fun _ _ _ => fal_le hW9)
                  refine lv_icmp_le (tgt := 82) hx hb dX11_safeBy_67 (by decide) (fun c_20 => ?_) (fun c_20 => ?_)
                  · have k_21 : fal Wr an (dgt i) (dgt j) ≤ wo := (he_cle (a := fal Wr an (dgt i) (dgt j)) (b := wo) rfl rfl (by omega) (by omega)).mp c_20
                    refine lv_iload hx hb dX11_safeBy_82 (lv_at hl 6 rfl) ?_
                    exact join84 wo (mxF_l hwo rfl (by omega)) _ _ _ hP hD hS (lv_sub hl [0, 1, 2, 3, 4, 5, 6, 7] rfl)
                  · have k_22 : ¬ (fal Wr an (dgt i) (dgt j) ≤ wo) := fun h9 => c_20 ((he_cle (a := fal Wr an (dgt i) (dgt j)) (b := wo) rfl rfl (by omega) (by omega)).mpr h9)
                    refine lv_aload_n hx hb dX11_safeBy_70 rfl (lv_at hl 0 rfl) ?_
                    refine lv_iload hx hb dX11_safeBy_71 (lv_at hl 7 rfl) ?_
                    refine lv_iload hx hb dX11_safeBy_73 (lv_at hl 5 rfl) ?_
                    refine lv_iload_n hx hb dX11_safeBy_75 rfl (lv_at hl 3 rfl) ?_
                    refine he_ci (wc := ([(oX11 m0 tw ta sz_ pl at_ fa fw cs fd rfm rt_ to_ rw_ wa ct rk rb cn br sm as_ go sh_ ir oa ob th ig sp_ ki tg of_ kp sr rs), (aM g wa 6 (he_ro 6 r2))] ++ (he_pl g L ln M))) (wr := []) (va_runV (As := [.int (nI i), .int (nI j), .int (nI an)]) (rest := []) ⟨hx, hb, hml, hown, hts⟩ (r_X11_falls l g m0 fd rfm rt_ to_ rw_ wa rk rb cn br sm as_ go sh_ ki tg of_ kp rs ta sz_ pl at_ fa fw cs ct ir oa ob th ig sp_ sr tw L ln M r2 i j an Wr (by first | assumption | decide | omega) (by first | assumption | decide | omega) (by first | assumption | decide | omega) (by first | assumption | decide | omega) (by first | assumption | decide | omega) (by first | assumption | decide | omega) H.size) (cwV 3 hts gX11_safeBy_X11_falls rfl rfl rfl (by decide +kernel) ⟨Nat.le_of_ble_eq_true rfl, Nat.le_of_ble_eq_true rfl⟩) (he_preV (wc := ([(oX11 m0 tw ta sz_ pl at_ fa fw cs fd rfm rt_ to_ rw_ wa ct rk rb cn br sm as_ go sh_ ir oa ob th ig sp_ ki tg of_ kp sr rs), (aM g wa 6 (he_ro 6 r2))] ++ (he_pl g L ln M))) hK hP hD hS hA hE (he_is [0, 1] [(oX11 m0 tw ta sz_ pl at_ fa fw cs fd rfm rt_ to_ rw_ wa ct rk rb cn br sm as_ go sh_ ir oa ob th ig sp_ ki tg of_ kp sr rs), (aM g wa 6 (he_ro 6 r2))] (he_pl g L ln M)) (he_ixP rfl) (he_ndP rfl rfl) 0 rfl rfl) rfl rfl hl.1 rfl (lv_room (Nat.le_of_ble_eq_true rfl)) dX11_safeBy_76 ⟨(Nat.le_of_ble_eq_true rfl), (Nat.le_of_ble_eq_true rfl)⟩) hP hD hS hA (he_is [0, 1] [(oX11 m0 tw ta sz_ pl at_ fa fw cs fd rfm rt_ to_ rw_ wa ct rk rb cn br sm as_ go sh_ ir oa ob th ig sp_ ki tg of_ kp sr rs), (aM g wa 6 (he_ro 6 r2))] (he_pl g L ln M)) [] (he_ixP rfl) rfl rfl (he_disP (by decide) rfl) (fun r_23 u_24 H locs h_25 hP hD hS => ?_)
                    subst h_25
                    have hP : va_P g.1 vwCl ([(oX11 m0 tw ta sz_ pl at_ fa fw cs fd rfm rt_ to_ rw_ wa ct rk rb cn br sm as_ go sh_ ir oa ob th ig sp_ ki tg of_ kp sr rs), (aM g wa 6 (he_ro 6 r2))] ++ he_pl g L ln M) H := hP
                    have hD : va_D A ([(oX11 m0 tw ta sz_ pl at_ fa fw cs fd rfm rt_ to_ rw_ wa ct rk rb cn br sm as_ go sh_ ir oa ob th ig sp_ ki tg of_ kp sr rs), (aM g wa 6 (he_ro 6 r2))] ++ he_pl g L ln M) := hD
                    refine lv_goto (tgt := 84) hx hb dX11_safeBy_79 (by decide) ?_
                    exact join84 (fal Wr an (dgt i) (dgt j)) (mxF_g hwo hqu rfl (by omega)) _ _ _ hP hD hS (lv_sub hl [0, 1, 2, 3, 4, 5, 6, 7] rfl)
          exact loop38 ((343 - 0) + 1) 0 0 (Nat.lt_succ_self _) (Nat.zero_le _) rfl _ _ _ hP hD hS (lv_sub hl [2, 3, 4, 5, 6, 7, 1, 0] rfl)
        · have hpu : ¬ puB j d an = true := puI_n c_7
          refine lv_goto (tgt := 118) hx hb dX11_safeBy_29 (by decide) ?_
          refine lv_iinc (v := nI (j + 1)) (lv' := [(5, .int (nI (j + 1))), (0, .ref m0), (1, .int (nI a)), (2, .int (nI d)), (3, .int (nI an)), (4, .int be)]) hx hb dX11_safeBy_118 hl (k := 5) rfl (nI_1 j) (by decide) rfl (fun ls hl => ?_)
          refine lv_goto (tgt := 11) hx hb dX11_safeBy_121 (by decide) ?_
          exact ih11 (j + 1) be sr (by omega) (by omega) (by rw [sfO_n (P := (fun r9 => puB r9 d an)) (j := j) hpu]; exact hbe) (by rw [sfO_n (P := (fun r9 => puB r9 d an)) (j := j) hpu]; exact hsr) _ _ _ hP hD hS (lv_sub hl [1, 2, 3, 4, 5, 0] rfl)
  exact loop11 ((343 - 0) + 1) 0 (-1) 0 (Nat.lt_succ_self _) (Nat.zero_le _) rfl rfl _ _ _ hP hD hS (lv_sub hl [2, 3, 4, 5, 1, 0] rfl)
set_option maxHeartbeats 4000000 in
set_option maxRecDepth 100000 in
theorem r_X11_sureBy (l : Launch) (g : he_G) (m0 : Nat) (fd : Nat) (rfm : Nat) (rt_ : Nat) (to_ : Nat) (rw_ : Nat) (wa : Nat) (rk : Nat) (rb : Nat) (cn : Nat) (br : Nat) (sm : Nat) (as_ : Nat) (go : Nat) (sh_ : Nat) (ki : Nat) (tg : Nat) (of_ : Nat) (kp : Nat) (rs : Nat) (ta : Int32) (sz_ : Int32) (pl : Int32) (at_ : Int32) (fa : Int32) (fw : Int32) (cs : Int32) (ct : Int32) (ir : Int32) (oa : Int32) (ob : Int32) (th : Int32) (ig : Int32) (sp_ : Int32) (sf : Int32) (tw : Int32) (L : List Nat) (ln : Nat → Nat) (M : Nat → Nat → Int32) (r2 : Nat → Nat) (a : Nat) (d : Nat) (an : Nat) (Wr : Nat → Nat) (F_r2 : ∀ i, i < 6 → r2 i ∈ L ∧ ln (r2 i) = 2 ∧ True) (han : an < 8) (ha6 : a ≤ 6) (hd6 : d ≤ 6) (hWm : ∀ k, k < 3 → bt an k = true → M (r2 k) 0 = nI (Wr k)) (hW9 : ∀ k, Wr k ≤ 99) : he_I l yX11_sureBy wsX11_sureBy 2 46 0 0 g [.ref m0, .int (nI a), .int (nI d), .int (nI an)] ([(oX11 m0 tw ta sz_ pl at_ fa fw cs fd rfm rt_ to_ rw_ wa ct rk rb cn br sm as_ go sh_ ir oa ob th ig sp_ ki tg of_ kp sf rs), (aM g wa 6 (he_ro 6 r2))] ++ he_pl g L ln M) (fun (r : Int32) (u : Unit) => r = nI (moC Wr an a d)) (fun (u : Unit) => [(oX11 m0 tw ta sz_ pl at_ fa fw cs fd rfm rt_ to_ rw_ wa ct rk rb cn br sm as_ go sh_ ir oa ob th ig sp_ ki tg of_ kp sf rs), (aM g wa 6 (he_ro 6 r2))] ++ he_pl g L ln M) := by
  refine he_begin (l := l) (g := g) (y := yX11_sureBy) (wl := wsX11_sureBy) (fr := 2) (lo := 46) (mc := 0) (ms := 0) (av := [.ref m0, .int (nI a), .int (nI d), .int (nI an)]) (ws := ([(oX11 m0 tw ta sz_ pl at_ fa fw cs fd rfm rt_ to_ rw_ wa ct rk rb cn br sm as_ go sh_ ir oa ob th ig sp_ ki tg of_ kp sf rs), (aM g wa 6 (he_ro 6 r2))] ++ he_pl g L ln M)) (cc := cX11_sureBy) (maxL := 8) (ret := (some .int)) (fun A => va_Qi (fun (r : Int32) (u : Unit) => r = nI (moC Wr an a d)) (fun u t => he_post g A ((fun (u : Unit) => [(oX11 m0 tw ta sz_ pl at_ fa fw cs fd rfm rt_ to_ rw_ wa ct rk rb cn br sm as_ go sh_ ir oa ob th ig sp_ ki tg of_ kp sf rs), (aM g wa 6 (he_ro 6 r2))] ++ he_pl g L ln M) u) t) A) (by decide) rfl (Nat.le_of_ble_eq_true rfl) ?_
  intro p e s m args below meth c A ls H locs Q hQ hB
  obtain ⟨hx, hb, hr, hml, hown, hts, hlk, hin, hP, hK, hD, hS, hA, hE, hl⟩ := hB
  have hl : lv_has ls 8 [(0, .ref m0), (1, .int (nI a)), (2, .int (nI d)), (3, .int (nI an))] := hl
  refine lv_iconst (v := 0) hx hb dX11_sureBy_0 (by decide) ?_
  refine lv_istore (lv' := [(4, .int 0), (0, .ref m0), (1, .int (nI a)), (2, .int (nI d)), (3, .int (nI an))]) hx hb dX11_sureBy_1 hl (by decide) rfl (fun ls hl => ?_)
  refine lv_iconst (v := 0) hx hb dX11_sureBy_3 (by decide) ?_
  refine lv_istore (lv' := [(5, .int 0), (4, .int 0), (0, .ref m0), (1, .int (nI a)), (2, .int (nI d)), (3, .int (nI an))]) hx hb dX11_sureBy_4 hl (by decide) rfl (fun ls hl => ?_)
  have loop6 : ∀ (n9 : Nat) (j : Nat) (be : Nat), 343 - j < n9 → (j ≤ 343) → (be = mxF (fun r9 => puB r9 a an) (uD Wr an d) j) → ∀ (H : Heap) (locs : List Loc) (ls : Array Slot), va_P g.1 vwCl ([(oX11 m0 tw ta sz_ pl at_ fa fw cs fd rfm rt_ to_ rw_ wa ct rk rb cn br sm as_ go sh_ ir oa ob th ig sp_ ki tg of_ kp sf rs), (aM g wa 6 (he_ro 6 r2))] ++ he_pl g L ln M) H → va_D A ([(oX11 m0 tw ta sz_ pl at_ fa fw cs fd rfm rt_ to_ rw_ wa ct rk rb cn br sm as_ go sh_ ir oa ob th ig sp_ ki tg of_ kp sf rs), (aM g wa 6 (he_ro 6 r2))] ++ he_pl g L ln M) → va_S A s.heap H locs → lv_has ls 8 [(0, .ref m0), (1, .int (nI a)), (2, .int (nI d)), (3, .int (nI an)), (4, .int (nI be)), (5, .int (nI j))] → W p l e (he_room 2 46 0 0) s m args below meth c H locs 0 0 Q (F0 m 6 ls []) := by
    intro n9
    induction n9 with
    | zero => intro j be hm9; exact absurd hm9 (Nat.not_lt_zero _)
    | succ n9 ih6 =>
      intro j be hm9 hj hbe H locs ls hP hD hS hl
      refine lv_iload hx hb dX11_sureBy_6 (lv_at hl 5 rfl) ?_
      refine lv_sipush (v := 343) hx hb dX11_sureBy_8 (by decide) ?_
      refine lv_icmp_ge (tgt := 110) hx hb dX11_sureBy_11 (by decide) (fun c_1 => ?_) (fun c_1 => ?_)
      · have k_2 : 343 ≤ j := (he_cle (a := 343) (b := j) (by decide) rfl (by omega) (by omega)).mp c_1
        refine lv_iload hx hb dX11_sureBy_110 (lv_at hl 4 rfl) ?_
        exact he_ri hQ hx hb hr hlk hP hD hS dX11_sureBy_112 (Nat.le_of_ble_eq_true rfl) (Nat.le_of_ble_eq_true rfl) (()) (rfl) ((congrArg nI (by rw [hbe, show j = 343 by omega]; exact sure_eq han ha6 hd6)))
      · have k_3 : ¬ (343 ≤ j) := fun h9 => c_1 ((he_cle (a := 343) (b := j) (by decide) rfl (by omega) (by omega)).mpr h9)
        refine lv_iload hx hb dX11_sureBy_14 (lv_at hl 5 rfl) ?_
        refine lv_iload_n hx hb dX11_sureBy_16 rfl (lv_at hl 1 rfl) ?_
        refine lv_iload_n hx hb dX11_sureBy_17 rfl (lv_at hl 3 rfl) ?_
        refine he_ci (wc := []) (wr := ([(oX11 m0 tw ta sz_ pl at_ fa fw cs fd rfm rt_ to_ rw_ wa ct rk rb cn br sm as_ go sh_ ir oa ob th ig sp_ ki tg of_ kp sf rs), (aM g wa 6 (he_ro 6 r2))] ++ (he_pl g L ln M))) (va_runS (As := [.int (nI j), .int (nI a), .int (nI an)]) (rest := []) ⟨hx, hb, hml, hown, hts⟩ (r_X11_puts0 l g j a an (by first | assumption | decide | omega) (by first | assumption | decide | omega) (by first | assumption | decide | omega) H.size) (va_cwS 3 hts gX11_sureBy_X11_puts0 rfl rfl rfl (by decide +kernel) ⟨Nat.le_of_ble_eq_true rfl, Nat.le_of_ble_eq_true rfl⟩) (he_preS (wc := []) hK hP hD hS hA hE [] rfl rfl) rfl rfl hl.1 rfl (lv_room (Nat.le_of_ble_eq_true rfl)) dX11_sureBy_18 ⟨(Nat.le_of_ble_eq_true rfl), (Nat.le_of_ble_eq_true rfl)⟩) hP hD hS hA [] (he_is [0, 1] [(oX11 m0 tw ta sz_ pl at_ fa fw cs fd rfm rt_ to_ rw_ wa ct rk rb cn br sm as_ go sh_ ir oa ob th ig sp_ ki tg of_ kp sf rs), (aM g wa 6 (he_ro 6 r2))] (he_pl g L ln M)) rfl (he_ixP rfl) (he_ndP rfl rfl) (he_disN (by decide) rfl) (fun r_4 u_5 H locs h_6 hP hD hS => ?_)
        have hP := va_P.swap hP
        have hD := va_D.swap hD
        subst h_6
        have hP : va_P g.1 vwCl ([(oX11 m0 tw ta sz_ pl at_ fa fw cs fd rfm rt_ to_ rw_ wa ct rk rb cn br sm as_ go sh_ ir oa ob th ig sp_ ki tg of_ kp sf rs), (aM g wa 6 (he_ro 6 r2))] ++ he_pl g L ln M) H := hP
        have hD : va_D A ([(oX11 m0 tw ta sz_ pl at_ fa fw cs fd rfm rt_ to_ rw_ wa ct rk rb cn br sm as_ go sh_ ir oa ob th ig sp_ ki tg of_ kp sf rs), (aM g wa 6 (he_ro 6 r2))] ++ he_pl g L ln M) := hD
        refine lv_if_ne (tgt := 27) hx hb dX11_sureBy_21 (by decide) (fun c_7 => ?_) (fun c_7 => ?_)
        · have hpu : puB j a an = true := puI_y c_7
          refine lv_iconst (v := (-1)) hx hb dX11_sureBy_27 (by decide) ?_
          refine lv_istore (lv' := [(6, .int (-1)), (0, .ref m0), (1, .int (nI a)), (2, .int (nI d)), (3, .int (nI an)), (4, .int (nI be)), (5, .int (nI j))]) hx hb dX11_sureBy_28 hl (by decide) rfl (fun ls hl => ?_)
          refine lv_iconst (v := 0) hx hb dX11_sureBy_30 (by decide) ?_
          refine lv_istore (lv' := [(7, .int 0), (6, .int (-1)), (0, .ref m0), (1, .int (nI a)), (2, .int (nI d)), (3, .int (nI an)), (4, .int (nI be)), (5, .int (nI j))]) hx hb dX11_sureBy_31 hl (by decide) rfl (fun ls hl => ?_)
          have loop33 : ∀ (n9 : Nat) (i : Nat) (wo : Int32), 343 - i < n9 → (i ≤ 343) → (wo = mnI (mnO (fun r9 => puB r9 d an) (fun r9 => fal Wr an (dgt j) (dgt r9)) i)) → ∀ (H : Heap) (locs : List Loc) (ls : Array Slot), va_P g.1 vwCl ([(oX11 m0 tw ta sz_ pl at_ fa fw cs fd rfm rt_ to_ rw_ wa ct rk rb cn br sm as_ go sh_ ir oa ob th ig sp_ ki tg of_ kp sf rs), (aM g wa 6 (he_ro 6 r2))] ++ he_pl g L ln M) H → va_D A ([(oX11 m0 tw ta sz_ pl at_ fa fw cs fd rfm rt_ to_ rw_ wa ct rk rb cn br sm as_ go sh_ ir oa ob th ig sp_ ki tg of_ kp sf rs), (aM g wa 6 (he_ro 6 r2))] ++ he_pl g L ln M) → va_S A s.heap H locs → lv_has ls 8 [(0, .ref m0), (1, .int (nI a)), (2, .int (nI d)), (3, .int (nI an)), (4, .int (nI be)), (5, .int (nI j)), (6, .int wo), (7, .int (nI i))] → W p l e (he_room 2 46 0 0) s m args below meth c H locs 0 0 Q (F0 m 33 ls []) := by
            intro n9
            induction n9 with
            | zero => intro i wo hm9; exact absurd hm9 (Nat.not_lt_zero _)
            | succ n9 ih33 =>
              intro i wo hm9 hi hwo H locs ls hP hD hS hl
              refine lv_iload hx hb dX11_sureBy_33 (lv_at hl 7 rfl) ?_
              refine lv_sipush (v := 343) hx hb dX11_sureBy_35 (by decide) ?_
              refine lv_icmp_ge (tgt := 88) hx hb dX11_sureBy_38 (by decide) (fun c_8 => ?_) (fun c_8 => ?_)
              · have k_9 : 343 ≤ i := (he_cle (a := 343) (b := i) (by decide) rfl (by omega) (by omega)).mp c_8
                have hwN : wo = nI (uD Wr an d j) := by rw [hwo, show i = 343 by omega, mn_s han hd6]; rfl
                have join102 : ∀ (tv : Nat), (tv = mxF (fun r9 => puB r9 a an) (uD Wr an d) (j + 1)) → ∀ (H : Heap) (locs : List Loc) (ls : Array Slot), va_P g.1 vwCl ([(oX11 m0 tw ta sz_ pl at_ fa fw cs fd rfm rt_ to_ rw_ wa ct rk rb cn br sm as_ go sh_ ir oa ob th ig sp_ ki tg of_ kp sf rs), (aM g wa 6 (he_ro 6 r2))] ++ he_pl g L ln M) H → va_D A ([(oX11 m0 tw ta sz_ pl at_ fa fw cs fd rfm rt_ to_ rw_ wa ct rk rb cn br sm as_ go sh_ ir oa ob th ig sp_ ki tg of_ kp sf rs), (aM g wa 6 (he_ro 6 r2))] ++ he_pl g L ln M) → va_S A s.heap H locs → lv_has ls 8 [(0, .ref m0), (1, .int (nI a)), (2, .int (nI d)), (3, .int (nI an)), (4, .int (nI be)), (5, .int (nI j)), (6, .int wo), (7, .int (nI i))] → W p l e (he_room 2 46 0 0) s m args below meth c H locs 0 0 Q (F0 m 102 ls [.int (nI tv)]) := by
                  intro tv htv H locs ls hP hD hS hl
                  refine lv_istore (lv' := [(4, .int (nI tv)), (0, .ref m0), (1, .int (nI a)), (2, .int (nI d)), (3, .int (nI an)), (5, .int (nI j)), (6, .int wo), (7, .int (nI i))]) hx hb dX11_sureBy_102 hl (by decide) rfl (fun ls hl => ?_)
                  refine lv_iinc (v := nI (j + 1)) (lv' := [(5, .int (nI (j + 1))), (4, .int (nI tv)), (0, .ref m0), (1, .int (nI a)), (2, .int (nI d)), (3, .int (nI an)), (6, .int wo), (7, .int (nI i))]) hx hb dX11_sureBy_104 hl (k := 5) rfl (nI_1 j) (by decide) rfl (fun ls hl => ?_)
                  refine lv_goto (tgt := 6) hx hb dX11_sureBy_107 (by decide) ?_
                  exact ih6 (j + 1) tv (by omega) (by omega) htv _ _ _ hP hD hS (lv_sub hl [2, 3, 4, 5, 1, 0] rfl)
                refine lv_iload hx hb dX11_sureBy_88 (lv_at hl 6 rfl) ?_
                refine lv_iload hx hb dX11_sureBy_90 (lv_at hl 4 rfl) ?_
                refine lv_icmp_le (tgt := 100) hx hb dX11_sureBy_92 (by decide) (fun c_10 => ?_) (fun c_10 => ?_)
                · have hcm : uD Wr an d j ≤ be := (nI_leI (Nat.lt_of_le_of_lt (uD_le hW9) (by decide)) (by rw [hbe]; exact Nat.lt_of_le_of_lt (mx_le j (fun _ _ _ => uD_le hW9)) (by decide))).mp (hwN ▸ c_10)
                  refine lv_iload hx hb dX11_sureBy_100 (lv_at hl 4 rfl) ?_
                  exact join102 be (mxF_l hbe rfl hcm) _ _ _ hP hD hS (lv_sub hl [0, 1, 2, 3, 4, 5, 6, 7] rfl)
                · have hcm : ¬ uD Wr an d j ≤ be := fun h9 => c_10 (hwN ▸ (nI_leI (Nat.lt_of_le_of_lt (uD_le hW9) (by decide)) (by rw [hbe]; exact Nat.lt_of_le_of_lt (mx_le j (fun _ _ _ => uD_le hW9)) (by decide))).mpr h9)
                  refine lv_iload hx hb dX11_sureBy_95 (lv_at hl 6 rfl) ?_
                  refine he_top (nI (uD Wr an d j)) hwN ?_
                  refine lv_goto (tgt := 102) hx hb dX11_sureBy_97 (by decide) ?_
                  exact join102 (uD Wr an d j) (mxF_g hbe hpu rfl (by omega)) _ _ _ hP hD hS (lv_sub hl [0, 1, 2, 3, 4, 5, 6, 7] rfl)
              · have k_11 : ¬ (343 ≤ i) := fun h9 => c_8 ((he_cle (a := 343) (b := i) (by decide) rfl (by omega) (by omega)).mpr h9)
                refine lv_iload hx hb dX11_sureBy_41 (lv_at hl 7 rfl) ?_
                refine lv_iload_n hx hb dX11_sureBy_43 rfl (lv_at hl 2 rfl) ?_
                refine lv_iload_n hx hb dX11_sureBy_44 rfl (lv_at hl 3 rfl) ?_
                refine he_ci (wc := []) (wr := ([(oX11 m0 tw ta sz_ pl at_ fa fw cs fd rfm rt_ to_ rw_ wa ct rk rb cn br sm as_ go sh_ ir oa ob th ig sp_ ki tg of_ kp sf rs), (aM g wa 6 (he_ro 6 r2))] ++ (he_pl g L ln M))) (va_runS (As := [.int (nI i), .int (nI d), .int (nI an)]) (rest := []) ⟨hx, hb, hml, hown, hts⟩ (r_X11_puts0 l g i d an (by first | assumption | decide | omega) (by first | assumption | decide | omega) (by first | assumption | decide | omega) H.size) (va_cwS 3 hts gX11_sureBy_X11_puts0 rfl rfl rfl (by decide +kernel) ⟨Nat.le_of_ble_eq_true rfl, Nat.le_of_ble_eq_true rfl⟩) (he_preS (wc := []) hK hP hD hS hA hE [] rfl rfl) rfl rfl hl.1 rfl (lv_room (Nat.le_of_ble_eq_true rfl)) dX11_sureBy_45 ⟨(Nat.le_of_ble_eq_true rfl), (Nat.le_of_ble_eq_true rfl)⟩) hP hD hS hA [] (he_is [0, 1] [(oX11 m0 tw ta sz_ pl at_ fa fw cs fd rfm rt_ to_ rw_ wa ct rk rb cn br sm as_ go sh_ ir oa ob th ig sp_ ki tg of_ kp sf rs), (aM g wa 6 (he_ro 6 r2))] (he_pl g L ln M)) rfl (he_ixP rfl) (he_ndP rfl rfl) (he_disN (by decide) rfl) (fun r_12 u_13 H locs h_14 hP hD hS => ?_)
                have hP := va_P.swap hP
                have hD := va_D.swap hD
                subst h_14
                have hP : va_P g.1 vwCl ([(oX11 m0 tw ta sz_ pl at_ fa fw cs fd rfm rt_ to_ rw_ wa ct rk rb cn br sm as_ go sh_ ir oa ob th ig sp_ ki tg of_ kp sf rs), (aM g wa 6 (he_ro 6 r2))] ++ he_pl g L ln M) H := hP
                have hD : va_D A ([(oX11 m0 tw ta sz_ pl at_ fa fw cs fd rfm rt_ to_ rw_ wa ct rk rb cn br sm as_ go sh_ ir oa ob th ig sp_ ki tg of_ kp sf rs), (aM g wa 6 (he_ro 6 r2))] ++ he_pl g L ln M) := hD
                refine lv_if_eq (tgt := 82) hx hb dX11_sureBy_48 (by decide) (fun c_15 => ?_) (fun c_15 => ?_)
                · have hqu : ¬ puB i d an = true := puI_n c_15
                  refine lv_iinc (v := nI (i + 1)) (lv' := [(7, .int (nI (i + 1))), (0, .ref m0), (1, .int (nI a)), (2, .int (nI d)), (3, .int (nI an)), (4, .int (nI be)), (5, .int (nI j)), (6, .int wo)]) hx hb dX11_sureBy_82 hl (k := 7) rfl (nI_1 i) (by decide) rfl (fun ls hl => ?_)
                  refine lv_goto (tgt := 33) hx hb dX11_sureBy_85 (by decide) ?_
                  exact ih33 (i + 1) wo (by omega) (by omega) (hwo.trans (mn_p hqu)) _ _ _ hP hD hS (lv_sub hl [1, 2, 3, 4, 5, 6, 7, 0] rfl)
                · have hqu : puB i d an = true := puI_y c_15
                  have join71 : ∀ (_ : Unit), (nI (fal Wr an (dgt j) (dgt i)) = mnI (mnO (fun r9 => puB r9 d an) (fun r9 => fal Wr an (dgt j) (dgt r9)) (i + 1))) → ∀ (H : Heap) (locs : List Loc) (ls : Array Slot), va_P g.1 vwCl ([(oX11 m0 tw ta sz_ pl at_ fa fw cs fd rfm rt_ to_ rw_ wa ct rk rb cn br sm as_ go sh_ ir oa ob th ig sp_ ki tg of_ kp sf rs), (aM g wa 6 (he_ro 6 r2))] ++ he_pl g L ln M) H → va_D A ([(oX11 m0 tw ta sz_ pl at_ fa fw cs fd rfm rt_ to_ rw_ wa ct rk rb cn br sm as_ go sh_ ir oa ob th ig sp_ ki tg of_ kp sf rs), (aM g wa 6 (he_ro 6 r2))] ++ he_pl g L ln M) → va_S A s.heap H locs → lv_has ls 8 [(0, .ref m0), (1, .int (nI a)), (2, .int (nI d)), (3, .int (nI an)), (4, .int (nI be)), (5, .int (nI j)), (6, .int wo), (7, .int (nI i))] → W p l e (he_room 2 46 0 0) s m args below meth c H locs 0 0 Q (F0 m 71 ls []) := by
                    intro _ hup H locs ls hP hD hS hl
                    refine lv_aload_n hx hb dX11_sureBy_71 rfl (lv_at hl 0 rfl) ?_
                    refine lv_iload hx hb dX11_sureBy_72 (lv_at hl 5 rfl) ?_
                    refine lv_iload hx hb dX11_sureBy_74 (lv_at hl 7 rfl) ?_
                    refine lv_iload_n hx hb dX11_sureBy_76 rfl (lv_at hl 3 rfl) ?_
                    refine he_ci (wc := ([(oX11 m0 tw ta sz_ pl at_ fa fw cs fd rfm rt_ to_ rw_ wa ct rk rb cn br sm as_ go sh_ ir oa ob th ig sp_ ki tg of_ kp sf rs), (aM g wa 6 (he_ro 6 r2))] ++ (he_pl g L ln M))) (wr := []) (va_runV (As := [.int (nI j), .int (nI i), .int (nI an)]) (rest := []) ⟨hx, hb, hml, hown, hts⟩ (r_X11_falls l g m0 fd rfm rt_ to_ rw_ wa rk rb cn br sm as_ go sh_ ki tg of_ kp rs ta sz_ pl at_ fa fw cs ct ir oa ob th ig sp_ sf tw L ln M r2 j i an Wr (by first | assumption | decide | omega) (by first | assumption | decide | omega) (by first | assumption | decide | omega) (by first | assumption | decide | omega) (by first | assumption | decide | omega) (by first | assumption | decide | omega) H.size) (cwV 3 hts gX11_sureBy_X11_falls rfl rfl rfl (by decide +kernel) ⟨Nat.le_of_ble_eq_true rfl, Nat.le_of_ble_eq_true rfl⟩) (he_preV (wc := ([(oX11 m0 tw ta sz_ pl at_ fa fw cs fd rfm rt_ to_ rw_ wa ct rk rb cn br sm as_ go sh_ ir oa ob th ig sp_ ki tg of_ kp sf rs), (aM g wa 6 (he_ro 6 r2))] ++ (he_pl g L ln M))) hK hP hD hS hA hE (he_is [0, 1] [(oX11 m0 tw ta sz_ pl at_ fa fw cs fd rfm rt_ to_ rw_ wa ct rk rb cn br sm as_ go sh_ ir oa ob th ig sp_ ki tg of_ kp sf rs), (aM g wa 6 (he_ro 6 r2))] (he_pl g L ln M)) (he_ixP rfl) (he_ndP rfl rfl) 0 rfl rfl) rfl rfl hl.1 rfl (lv_room (Nat.le_of_ble_eq_true rfl)) dX11_sureBy_77 ⟨(Nat.le_of_ble_eq_true rfl), (Nat.le_of_ble_eq_true rfl)⟩) hP hD hS hA (he_is [0, 1] [(oX11 m0 tw ta sz_ pl at_ fa fw cs fd rfm rt_ to_ rw_ wa ct rk rb cn br sm as_ go sh_ ir oa ob th ig sp_ ki tg of_ kp sf rs), (aM g wa 6 (he_ro 6 r2))] (he_pl g L ln M)) [] (he_ixP rfl) rfl rfl (he_disP (by decide) rfl) (fun r_16 u_17 H locs h_18 hP hD hS => ?_)
                    subst h_18
                    have hP : va_P g.1 vwCl ([(oX11 m0 tw ta sz_ pl at_ fa fw cs fd rfm rt_ to_ rw_ wa ct rk rb cn br sm as_ go sh_ ir oa ob th ig sp_ ki tg of_ kp sf rs), (aM g wa 6 (he_ro 6 r2))] ++ he_pl g L ln M) H := hP
                    have hD : va_D A ([(oX11 m0 tw ta sz_ pl at_ fa fw cs fd rfm rt_ to_ rw_ wa ct rk rb cn br sm as_ go sh_ ir oa ob th ig sp_ ki tg of_ kp sf rs), (aM g wa 6 (he_ro 6 r2))] ++ he_pl g L ln M) := hD
                    refine lv_istore (lv' := [(6, .int (nI (fal Wr an (dgt j) (dgt i)))), (0, .ref m0), (1, .int (nI a)), (2, .int (nI d)), (3, .int (nI an)), (4, .int (nI be)), (5, .int (nI j)), (7, .int (nI i))]) hx hb dX11_sureBy_80 hl (by decide) rfl (fun ls hl => ?_)
                    refine lv_iinc (v := nI (i + 1)) (lv' := [(7, .int (nI (i + 1))), (6, .int (nI (fal Wr an (dgt j) (dgt i)))), (0, .ref m0), (1, .int (nI a)), (2, .int (nI d)), (3, .int (nI an)), (4, .int (nI be)), (5, .int (nI j))]) hx hb dX11_sureBy_82 hl (k := 7) rfl (nI_1 i) (by decide) rfl (fun ls hl => ?_)
                    refine lv_goto (tgt := 33) hx hb dX11_sureBy_85 (by decide) ?_
                    exact ih33 (i + 1) (nI (fal Wr an (dgt j) (dgt i))) (by omega) (by omega) hup _ _ _ hP hD hS (lv_sub hl [2, 3, 4, 5, 6, 7, 1, 0] rfl)
                  refine lv_iload hx hb dX11_sureBy_51 (lv_at hl 6 rfl) ?_
                  refine lv_iconst (v := (-1)) hx hb dX11_sureBy_53 (by decide) ?_
                  refine lv_icmp_eq (tgt := 71) hx hb dX11_sureBy_54 (by decide) (fun c_19 => ?_) (fun c_19 => ?_)
                  · exact join71 () (mn_y (P := (fun r9 => puB r9 d an)) (v := (fun r9 => fal Wr an (dgt j) (dgt r9))) (bn_n (B := 297) (fun r9 => fal_le hW9) i) (by decide) (Nat.lt_of_le_of_lt (fal_le hW9) (by decide)) hqu (Or.inl (by rw [← hwo]; exact c_19))) _ _ _ hP hD hS (lv_sub hl [0, 1, 2, 3, 4, 5, 6, 7] rfl)
                  · refine lv_aload_n hx hb dX11_sureBy_57 rfl (lv_at hl 0 rfl) ?_
                    refine lv_iload hx hb dX11_sureBy_58 (lv_at hl 5 rfl) ?_
                    refine lv_iload hx hb dX11_sureBy_60 (lv_at hl 7 rfl) ?_
                    refine lv_iload_n hx hb dX11_sureBy_62 rfl (lv_at hl 3 rfl) ?_
                    refine he_ci (wc := ([(oX11 m0 tw ta sz_ pl at_ fa fw cs fd rfm rt_ to_ rw_ wa ct rk rb cn br sm as_ go sh_ ir oa ob th ig sp_ ki tg of_ kp sf rs), (aM g wa 6 (he_ro 6 r2))] ++ (he_pl g L ln M))) (wr := []) (va_runV (As := [.int (nI j), .int (nI i), .int (nI an)]) (rest := []) ⟨hx, hb, hml, hown, hts⟩ (r_X11_falls l g m0 fd rfm rt_ to_ rw_ wa rk rb cn br sm as_ go sh_ ki tg of_ kp rs ta sz_ pl at_ fa fw cs ct ir oa ob th ig sp_ sf tw L ln M r2 j i an Wr (by first | assumption | decide | omega) (by first | assumption | decide | omega) (by first | assumption | decide | omega) (by first | assumption | decide | omega) (by first | assumption | decide | omega) (by first | assumption | decide | omega) H.size) (cwV 3 hts gX11_sureBy_X11_falls rfl rfl rfl (by decide +kernel) ⟨Nat.le_of_ble_eq_true rfl, Nat.le_of_ble_eq_true rfl⟩) (he_preV (wc := ([(oX11 m0 tw ta sz_ pl at_ fa fw cs fd rfm rt_ to_ rw_ wa ct rk rb cn br sm as_ go sh_ ir oa ob th ig sp_ ki tg of_ kp sf rs), (aM g wa 6 (he_ro 6 r2))] ++ (he_pl g L ln M))) hK hP hD hS hA hE (he_is [0, 1] [(oX11 m0 tw ta sz_ pl at_ fa fw cs fd rfm rt_ to_ rw_ wa ct rk rb cn br sm as_ go sh_ ir oa ob th ig sp_ ki tg of_ kp sf rs), (aM g wa 6 (he_ro 6 r2))] (he_pl g L ln M)) (he_ixP rfl) (he_ndP rfl rfl) 0 rfl rfl) rfl rfl hl.1 rfl (lv_room (Nat.le_of_ble_eq_true rfl)) dX11_sureBy_63 ⟨(Nat.le_of_ble_eq_true rfl), (Nat.le_of_ble_eq_true rfl)⟩) hP hD hS hA (he_is [0, 1] [(oX11 m0 tw ta sz_ pl at_ fa fw cs fd rfm rt_ to_ rw_ wa ct rk rb cn br sm as_ go sh_ ir oa ob th ig sp_ ki tg of_ kp sf rs), (aM g wa 6 (he_ro 6 r2))] (he_pl g L ln M)) [] (he_ixP rfl) rfl rfl (he_disP (by decide) rfl) (fun r_20 u_21 H locs h_22 hP hD hS => ?_)
                    subst h_22
                    have hP : va_P g.1 vwCl ([(oX11 m0 tw ta sz_ pl at_ fa fw cs fd rfm rt_ to_ rw_ wa ct rk rb cn br sm as_ go sh_ ir oa ob th ig sp_ ki tg of_ kp sf rs), (aM g wa 6 (he_ro 6 r2))] ++ he_pl g L ln M) H := hP
                    have hD : va_D A ([(oX11 m0 tw ta sz_ pl at_ fa fw cs fd rfm rt_ to_ rw_ wa ct rk rb cn br sm as_ go sh_ ir oa ob th ig sp_ ki tg of_ kp sf rs), (aM g wa 6 (he_ro 6 r2))] ++ he_pl g L ln M) := hD
                    refine lv_iload hx hb dX11_sureBy_66 (lv_at hl 6 rfl) ?_
                    refine lv_icmp_ge (tgt := 82) hx hb dX11_sureBy_68 (by decide) (fun c_23 => ?_) (fun c_23 => ?_)
                    · refine lv_iinc (v := nI (i + 1)) (lv' := [(7, .int (nI (i + 1))), (0, .ref m0), (1, .int (nI a)), (2, .int (nI d)), (3, .int (nI an)), (4, .int (nI be)), (5, .int (nI j)), (6, .int wo)]) hx hb dX11_sureBy_82 hl (k := 7) rfl (nI_1 i) (by decide) rfl (fun ls hl => ?_)
                      refine lv_goto (tgt := 33) hx hb dX11_sureBy_85 (by decide) ?_
                      exact ih33 (i + 1) wo (by omega) (by omega) (hwo.trans (mn_n (P := (fun r9 => puB r9 d an)) (v := (fun r9 => fal Wr an (dgt j) (dgt r9))) (bn_n (B := 297) (fun r9 => fal_le hW9) i) (by decide) (Nat.lt_of_le_of_lt (fal_le hW9) (by decide)) (by rw [← hwo]; exact c_19) (by rw [← hwo]; exact c_23))) _ _ _ hP hD hS (lv_sub hl [1, 2, 3, 4, 5, 6, 7, 0] rfl)
                    · exact join71 () (mn_y (P := (fun r9 => puB r9 d an)) (v := (fun r9 => fal Wr an (dgt j) (dgt r9))) (bn_n (B := 297) (fun r9 => fal_le hW9) i) (by decide) (Nat.lt_of_le_of_lt (fal_le hW9) (by decide)) hqu (Or.inr (by rw [← hwo]; exact c_23))) _ _ _ hP hD hS (lv_sub hl [0, 1, 2, 3, 4, 5, 6, 7] rfl)
          exact loop33 ((343 - 0) + 1) 0 (-1) (Nat.lt_succ_self _) (Nat.zero_le _) rfl _ _ _ hP hD hS (lv_sub hl [2, 3, 4, 5, 6, 7, 1, 0] rfl)
        · have hpu : ¬ puB j a an = true := puI_n c_7
          refine lv_goto (tgt := 104) hx hb dX11_sureBy_24 (by decide) ?_
          refine lv_iinc (v := nI (j + 1)) (lv' := [(5, .int (nI (j + 1))), (0, .ref m0), (1, .int (nI a)), (2, .int (nI d)), (3, .int (nI an)), (4, .int (nI be))]) hx hb dX11_sureBy_104 hl (k := 5) rfl (nI_1 j) (by decide) rfl (fun ls hl => ?_)
          refine lv_goto (tgt := 6) hx hb dX11_sureBy_107 (by decide) ?_
          exact ih6 (j + 1) be (by omega) (by omega) (mxF_n hbe hpu) _ _ _ hP hD hS (lv_sub hl [1, 2, 3, 4, 5, 0] rfl)
  exact loop6 ((343 - 0) + 1) 0 0 (Nat.lt_succ_self _) (Nat.zero_le _) rfl _ _ _ hP hD hS (lv_sub hl [2, 3, 4, 5, 1, 0] rfl)
set_option maxHeartbeats 4000000 in
set_option maxRecDepth 100000 in
theorem r_X11_earnest0 (l : Launch) (g : he_G) (m0 : Nat) (fd : Nat) (rfm : Nat) (rt_ : Nat) (to_ : Nat) (rw_ : Nat) (wa : Nat) (rk : Nat) (rb : Nat) (cn : Nat) (br : Nat) (sm : Nat) (as_ : Nat) (go : Nat) (sh_ : Nat) (ki : Nat) (tg : Nat) (of_ : Nat) (kp : Nat) (rs : Nat) (ta : Int32) (sz_ : Int32) (pl : Int32) (at_ : Int32) (fa : Int32) (fw : Int32) (cs : Int32) (ct : Int32) (ir : Int32) (oa : Int32) (ob : Int32) (th : Int32) (ig : Int32) (sp_ : Int32) (sf : Int32) (tw : Int32) (tl : Nat → Int32) (w : Nat) (v : Nat) (L : List Nat) (ln : Nat → Nat) (M : Nat → Nat → Int32) (r2 : Nat → Nat) (a : Nat) (d : Nat) (Wr : Nat → Nat) (htl : tl 0 = nI w) (hw6 : w ≤ 6) (hv : v = if 3 < w then 3 else w) (hv3 : v ≤ 3) (F_r2 : ∀ i, i < 6 → r2 i ∈ L ∧ ln (r2 i) = 2 ∧ True) (ha6 : a ≤ 6) (hd6 : d ≤ 6) (hWm : ∀ k, k < 3 → bt (allN v) k = true → M (r2 k) 0 = nI (Wr k)) (hW9 : ∀ k, Wr k ≤ 99) : he_I l yX11_earnest wsX11_earnest 3 73 0 0 g [.ref m0, .int (nI a), .int (nI d), .int 0] ([(oX11 m0 tw ta sz_ pl at_ fa fw cs fd rfm rt_ to_ rw_ wa ct rk rb cn br sm as_ go sh_ ir oa ob th ig sp_ ki tg of_ kp sf rs), (aI g to_ 25 tl), (aM g wa 6 (he_ro 6 r2))] ++ he_pl g L ln M) (fun (r : Int32) (u : Int32) => r = nI (leN (foC Wr (allN v) a d))) (fun (u : Int32) => [(oX11 m0 0 ta sz_ pl at_ fa fw cs fd rfm rt_ to_ rw_ wa ct rk rb cn br sm as_ go sh_ ir oa ob th ig sp_ ki tg of_ kp u rs), (aI g to_ 25 tl), (aM g wa 6 (he_ro 6 r2))] ++ he_pl g L ln M) := by
  refine he_begin (l := l) (g := g) (y := yX11_earnest) (wl := wsX11_earnest) (fr := 3) (lo := 73) (mc := 0) (ms := 0) (av := [.ref m0, .int (nI a), .int (nI d), .int 0]) (ws := ([(oX11 m0 tw ta sz_ pl at_ fa fw cs fd rfm rt_ to_ rw_ wa ct rk rb cn br sm as_ go sh_ ir oa ob th ig sp_ ki tg of_ kp sf rs), (aI g to_ 25 tl), (aM g wa 6 (he_ro 6 r2))] ++ he_pl g L ln M)) (cc := cX11_earnest) (maxL := 4) (ret := (some .int)) (fun A => va_Qi (fun (r : Int32) (u : Int32) => r = nI (leN (foC Wr (allN v) a d))) (fun u t => he_post g A ((fun (u : Int32) => [(oX11 m0 0 ta sz_ pl at_ fa fw cs fd rfm rt_ to_ rw_ wa ct rk rb cn br sm as_ go sh_ ir oa ob th ig sp_ ki tg of_ kp u rs), (aI g to_ 25 tl), (aM g wa 6 (he_ro 6 r2))] ++ he_pl g L ln M) u) t) A) (by decide) rfl (Nat.le_of_ble_eq_true rfl) ?_
  intro p e s m args below meth c A ls H locs Q hQ hB
  obtain ⟨hx, hb, hr, hml, hown, hts, hlk, hin, hP, hK, hD, hS, hA, hE, hl⟩ := hB
  have hl : lv_has ls 4 [(0, .ref m0), (1, .int (nI a)), (2, .int (nI d)), (3, .int 0)] := hl
  have h79 := all_7 hv3
  have f85 := hts (.fieldLink RX11 85 "HiredEnemyModel" "thrown" "I") (iwoX11_earnest (k := 0) rfl)
  have inX11 : ∀ w ∈ wsX110, w ∈ wsX11_earnest := innX11_earnest_X11
  refine lv_aload_n hx hb dX11_earnest_0 rfl (lv_at hl 0 rfl) ?_
  refine lv_iconst (v := 0) hx hb dX11_earnest_1 (by decide) ?_
  refine va_put (v := .int 0) (ty := .int) (T := TX11) (N := 35) hx hb hts inX11 tyX11 tyX11_ok nmX11 hown hK hP hD hS 0 rfl rfl 0 (by decide) f85 (fun _ h9 => h9) rfl (by decide +kernel) rfl rfl (Nat.le_of_ble_eq_true rfl) dX11_earnest_2 (fun H locs hP hD hS => ?_)
  have hP : va_P g.1 vwCl ([(oX11 m0 0 ta sz_ pl at_ fa fw cs fd rfm rt_ to_ rw_ wa ct rk rb cn br sm as_ go sh_ ir oa ob th ig sp_ ki tg of_ kp sf rs), (aI g to_ 25 tl), (aM g wa 6 (he_ro 6 r2))] ++ he_pl g L ln M) H := hP
  have hD : va_D A ([(oX11 m0 0 ta sz_ pl at_ fa fw cs fd rfm rt_ to_ rw_ wa ct rk rb cn br sm as_ go sh_ ir oa ob th ig sp_ ki tg of_ kp sf rs), (aI g to_ 25 tl), (aM g wa 6 (he_ro 6 r2))] ++ he_pl g L ln M) := hD
  refine lv_aload_n hx hb dX11_earnest_5 rfl (lv_at hl 0 rfl) ?_
  refine lv_iload_n hx hb dX11_earnest_6 rfl (lv_at hl 1 rfl) ?_
  refine lv_iload_n hx hb dX11_earnest_7 rfl (lv_at hl 2 rfl) ?_
  refine he_ci (wc := []) (wr := ([(oX11 m0 0 ta sz_ pl at_ fa fw cs fd rfm rt_ to_ rw_ wa ct rk rb cn br sm as_ go sh_ ir oa ob th ig sp_ ki tg of_ kp sf rs), (aI g to_ 25 tl), (aM g wa 6 (he_ro 6 r2))] ++ (he_pl g L ln M))) (va_runS (As := [.int (nI a), .int (nI d)]) (rest := [.ref m0]) ⟨hx, hb, hml, hown, hts⟩ (c_X11_areTens1 l g (nI a) (nI d) (fun h9 => absurd (he_within_in (k := a) (a := 0) (b := 6) (a0 := 0) (B := 6) rfl rfl (by omega) (by omega) (by decide)) (by rw [h9]; decide)) (fun h9 => absurd (he_within_in (k := d) (a := 0) (b := 6) (a0 := 0) (B := 6) rfl rfl (by omega) (by omega) (by decide)) (by rw [h9]; decide)) H.size) (va_cwS 2 hts gX11_earnest_X11_areTens rfl rfl rfl (by decide +kernel) ⟨Nat.le_of_ble_eq_true rfl, Nat.le_of_ble_eq_true rfl⟩) (he_preS (wc := []) hK hP hD hS hA hE [] rfl rfl) rfl rfl hl.1 rfl (lv_room (Nat.le_of_ble_eq_true rfl)) dX11_earnest_8 ⟨(Nat.le_of_ble_eq_true rfl), (Nat.le_of_ble_eq_true rfl)⟩) hP hD hS hA [] (he_is [0, 1, 2] [(oX11 m0 0 ta sz_ pl at_ fa fw cs fd rfm rt_ to_ rw_ wa ct rk rb cn br sm as_ go sh_ ir oa ob th ig sp_ ki tg of_ kp sf rs), (aI g to_ 25 tl), (aM g wa 6 (he_ro 6 r2))] (he_pl g L ln M)) rfl (he_ixP rfl) (he_ndP rfl rfl) (he_disN (by decide) rfl) (fun r_1 u_2 H locs h_3 hP hD hS => ?_)
  have hP := va_P.swap hP
  have hD := va_D.swap hD
  subst h_3
  have hP : va_P g.1 vwCl ([(oX11 m0 0 ta sz_ pl at_ fa fw cs fd rfm rt_ to_ rw_ wa ct rk rb cn br sm as_ go sh_ ir oa ob th ig sp_ ki tg of_ kp sf rs), (aI g to_ 25 tl), (aM g wa 6 (he_ro 6 r2))] ++ he_pl g L ln M) H := hP
  have hD : va_D A ([(oX11 m0 0 ta sz_ pl at_ fa fw cs fd rfm rt_ to_ rw_ wa ct rk rb cn br sm as_ go sh_ ir oa ob th ig sp_ ki tg of_ kp sf rs), (aI g to_ 25 tl), (aM g wa 6 (he_ro 6 r2))] ++ he_pl g L ln M) := hD
  refine lv_if_eq (tgt := 23) hx hb dX11_earnest_11 (by decide) (fun c_4 => ?_) (fun c_4 => ?_)
  · exact absurd c_4 (by decide)
  · refine lv_iload_n hx hb dX11_earnest_14 rfl (lv_at hl 3 rfl) ?_
    refine lv_iconst (v := 0) hx hb dX11_earnest_15 (by decide) ?_
    refine lv_iconst (v := 1) hx hb dX11_earnest_16 (by decide) ?_
    refine he_ci (wc := []) (wr := ([(oX11 m0 0 ta sz_ pl at_ fa fw cs fd rfm rt_ to_ rw_ wa ct rk rb cn br sm as_ go sh_ ir oa ob th ig sp_ ki tg of_ kp sf rs), (aI g to_ 25 tl), (aM g wa 6 (he_ro 6 r2))] ++ (he_pl g L ln M))) (va_runS (As := [.int 0, .int 0, .int 1]) (rest := [.ref m0]) ⟨hx, hb, hml, hown, hts⟩ (c_X11_in l g 0 0 1 H.size) (va_cwS 3 hts gX11_earnest_X11_in rfl rfl rfl (by decide +kernel) ⟨Nat.le_of_ble_eq_true rfl, Nat.le_of_ble_eq_true rfl⟩) (he_preS (wc := []) hK hP hD hS hA hE [] rfl rfl) rfl rfl hl.1 rfl (lv_room (Nat.le_of_ble_eq_true rfl)) dX11_earnest_17 ⟨(Nat.le_of_ble_eq_true rfl), (Nat.le_of_ble_eq_true rfl)⟩) hP hD hS hA [] (he_is [0, 1, 2] [(oX11 m0 0 ta sz_ pl at_ fa fw cs fd rfm rt_ to_ rw_ wa ct rk rb cn br sm as_ go sh_ ir oa ob th ig sp_ ki tg of_ kp sf rs), (aI g to_ 25 tl), (aM g wa 6 (he_ro 6 r2))] (he_pl g L ln M)) rfl (he_ixP rfl) (he_ndP rfl rfl) (he_disN (by decide) rfl) (fun r_5 u_6 H locs h_7 hP hD hS => ?_)
    have hP := va_P.swap hP
    have hD := va_D.swap hD
    subst h_7
    have hP : va_P g.1 vwCl ([(oX11 m0 0 ta sz_ pl at_ fa fw cs fd rfm rt_ to_ rw_ wa ct rk rb cn br sm as_ go sh_ ir oa ob th ig sp_ ki tg of_ kp sf rs), (aI g to_ 25 tl), (aM g wa 6 (he_ro 6 r2))] ++ he_pl g L ln M) H := hP
    have hD : va_D A ([(oX11 m0 0 ta sz_ pl at_ fa fw cs fd rfm rt_ to_ rw_ wa ct rk rb cn br sm as_ go sh_ ir oa ob th ig sp_ ki tg of_ kp sf rs), (aI g to_ 25 tl), (aM g wa 6 (he_ro 6 r2))] ++ he_pl g L ln M) := hD
    refine he_top (1) (by decide) ?_
    refine lv_if_ne (tgt := 27) hx hb dX11_earnest_20 (by decide) (fun c_8 => ?_) (fun c_8 => ?_)
    · refine lv_iconst (v := 0) hx hb dX11_earnest_27 (by decide) ?_
      refine lv_iconst (v := 1) hx hb dX11_earnest_28 (by decide) ?_
      refine lv_iconst (v := 2) hx hb dX11_earnest_29 (by decide) ?_
      refine he_ci (wc := [(oX11 m0 0 ta sz_ pl at_ fa fw cs fd rfm rt_ to_ rw_ wa ct rk rb cn br sm as_ go sh_ ir oa ob th ig sp_ ki tg of_ kp sf rs)]) (wr := ([(aI g to_ 25 tl), (aM g wa 6 (he_ro 6 r2))] ++ (he_pl g L ln M))) (va_runV (As := [.int 0, .int 1, .int 2]) (rest := []) ⟨hx, hb, hml, hown, hts⟩ (c_X11_bad0 l g m0 fd rfm rt_ to_ rw_ wa rk rb cn br sm as_ go sh_ ki tg of_ kp rs ta sz_ pl at_ fa fw cs ct ir oa ob th ig sp_ sf 1 2 H.size) (cwV 3 hts gX11_earnest_X11_bad rfl rfl rfl (by decide +kernel) ⟨Nat.le_of_ble_eq_true rfl, Nat.le_of_ble_eq_true rfl⟩) (he_preV (wc := [(oX11 m0 0 ta sz_ pl at_ fa fw cs fd rfm rt_ to_ rw_ wa ct rk rb cn br sm as_ go sh_ ir oa ob th ig sp_ ki tg of_ kp sf rs)]) hK hP hD hS hA hE [0] rfl rfl 0 rfl rfl) rfl rfl hl.1 rfl (lv_room (Nat.le_of_ble_eq_true rfl)) dX11_earnest_30 ⟨(Nat.le_of_ble_eq_true rfl), (Nat.le_of_ble_eq_true rfl)⟩) hP hD hS hA [0] (he_is [1, 2] [(oX11 m0 0 ta sz_ pl at_ fa fw cs fd rfm rt_ to_ rw_ wa ct rk rb cn br sm as_ go sh_ ir oa ob th ig sp_ ki tg of_ kp sf rs), (aI g to_ 25 tl), (aM g wa 6 (he_ro 6 r2))] (he_pl g L ln M)) rfl (he_ixP rfl) (he_ndP rfl rfl) (he_disN (by decide) rfl) (fun r_9 u_10 H locs h_11 hP hD hS => ?_)
      have hP := va_P.swap hP
      have hD := va_D.swap hD
      subst h_11
      have hP : va_P g.1 vwCl ([(aI g to_ 25 tl), (aM g wa 6 (he_ro 6 r2)), (oX11 m0 0 ta sz_ pl at_ fa fw cs fd rfm rt_ to_ rw_ wa ct rk rb cn br sm as_ go sh_ ir oa ob th ig sp_ ki tg of_ kp sf rs)] ++ he_pl g L ln M) H := hP
      have hD : va_D A ([(aI g to_ 25 tl), (aM g wa 6 (he_ro 6 r2)), (oX11 m0 0 ta sz_ pl at_ fa fw cs fd rfm rt_ to_ rw_ wa ct rk rb cn br sm as_ go sh_ ir oa ob th ig sp_ ki tg of_ kp sf rs)] ++ he_pl g L ln M) := hD
      refine lv_if_eq (tgt := 38) hx hb dX11_earnest_33 (by decide) (fun c_12 => ?_) (fun c_12 => ?_)
      · refine lv_iload_n hx hb dX11_earnest_38 rfl (lv_at hl 3 rfl) ?_
        refine lv_if_ne (tgt := 55) hx hb dX11_earnest_39 (by decide) (fun c_13 => ?_) (fun c_13 => ?_)
        · exact absurd (by decide) c_13
        · refine lv_aload_n hx hb dX11_earnest_42 rfl (lv_at hl 0 rfl) ?_
          refine lv_iload_n hx hb dX11_earnest_43 rfl (lv_at hl 1 rfl) ?_
          refine lv_iload_n hx hb dX11_earnest_44 rfl (lv_at hl 2 rfl) ?_
          refine lv_aload_n hx hb dX11_earnest_45 rfl (lv_at hl 0 rfl) ?_
          refine he_ci (wc := [(oX11 m0 0 ta sz_ pl at_ fa fw cs fd rfm rt_ to_ rw_ wa ct rk rb cn br sm as_ go sh_ ir oa ob th ig sp_ ki tg of_ kp sf rs), (aI g to_ 25 tl)]) (wr := ([(aM g wa 6 (he_ro 6 r2))] ++ (he_pl g L ln M))) (va_runV (As := []) (rest := [.int (nI d), .int (nI a), .ref m0]) ⟨hx, hb, hml, hown, hts⟩ (r_X11_firstWalls l g m0 fd rfm rt_ to_ rw_ wa rk rb cn br sm as_ go sh_ ki tg of_ kp rs ta sz_ pl at_ fa fw cs ct ir oa ob th ig sp_ sf 0 tl w v (by first | assumption | decide | omega) (by first | assumption | decide | omega) (by first | assumption | decide | omega) (by first | assumption | decide | omega) H.size) (cwV 0 hts gX11_earnest_X11_firstWalls rfl rfl rfl (by decide +kernel) ⟨Nat.le_of_ble_eq_true rfl, Nat.le_of_ble_eq_true rfl⟩) (he_preV (wc := [(oX11 m0 0 ta sz_ pl at_ fa fw cs fd rfm rt_ to_ rw_ wa ct rk rb cn br sm as_ go sh_ ir oa ob th ig sp_ ki tg of_ kp sf rs), (aI g to_ 25 tl)]) hK hP hD hS hA hE [2, 0] rfl rfl 2 rfl rfl) rfl rfl hl.1 rfl (lv_room (Nat.le_of_ble_eq_true rfl)) dX11_earnest_46 ⟨(Nat.le_of_ble_eq_true rfl), (Nat.le_of_ble_eq_true rfl)⟩) hP hD hS hA [2, 0] (he_is [1] [(aI g to_ 25 tl), (aM g wa 6 (he_ro 6 r2)), (oX11 m0 0 ta sz_ pl at_ fa fw cs fd rfm rt_ to_ rw_ wa ct rk rb cn br sm as_ go sh_ ir oa ob th ig sp_ ki tg of_ kp sf rs)] (he_pl g L ln M)) rfl (he_ixP rfl) (he_ndP rfl rfl) (he_disN (by decide) rfl) (fun r_14 u_15 H locs h_16 hP hD hS => ?_)
          have hP := va_P.swap hP
          have hD := va_D.swap hD
          subst h_16
          have hP : va_P g.1 vwCl ([(aM g wa 6 (he_ro 6 r2)), (oX11 m0 0 ta sz_ pl at_ fa fw cs fd rfm rt_ to_ rw_ wa ct rk rb cn br sm as_ go sh_ ir oa ob th ig sp_ ki tg of_ kp sf rs), (aI g to_ 25 tl)] ++ he_pl g L ln M) H := hP
          have hD : va_D A ([(aM g wa 6 (he_ro 6 r2)), (oX11 m0 0 ta sz_ pl at_ fa fw cs fd rfm rt_ to_ rw_ wa ct rk rb cn br sm as_ go sh_ ir oa ob th ig sp_ ki tg of_ kp sf rs), (aI g to_ 25 tl)] ++ he_pl g L ln M) := hD
          refine he_ci (wc := ([(oX11 m0 0 ta sz_ pl at_ fa fw cs fd rfm rt_ to_ rw_ wa ct rk rb cn br sm as_ go sh_ ir oa ob th ig sp_ ki tg of_ kp sf rs), (aM g wa 6 (he_ro 6 r2))] ++ (he_pl g L ln M))) (wr := [(aI g to_ 25 tl)]) (va_runV (As := [.int (nI a), .int (nI d), .int (nI (allN v))]) (rest := []) ⟨hx, hb, hml, hown, hts⟩ (r_X11_safeBy l g m0 fd rfm rt_ to_ rw_ wa rk rb cn br sm as_ go sh_ ki tg of_ kp rs ta sz_ pl at_ fa fw cs ct ir oa ob th ig sp_ sf 0 L ln M r2 a d (allN v) Wr (by first | assumption | decide | omega) (by omega) (by first | assumption | decide | omega) (by first | assumption | decide | omega) (by first | assumption | decide | omega) (by first | assumption | decide | omega) H.size) (cwV 3 hts gX11_earnest_X11_safeBy rfl rfl rfl (by decide +kernel) ⟨Nat.le_of_ble_eq_true rfl, Nat.le_of_ble_eq_true rfl⟩) (he_preV (wc := ([(oX11 m0 0 ta sz_ pl at_ fa fw cs fd rfm rt_ to_ rw_ wa ct rk rb cn br sm as_ go sh_ ir oa ob th ig sp_ ki tg of_ kp sf rs), (aM g wa 6 (he_ro 6 r2))] ++ (he_pl g L ln M))) hK hP hD hS hA hE (he_is [1, 0] [(aM g wa 6 (he_ro 6 r2)), (oX11 m0 0 ta sz_ pl at_ fa fw cs fd rfm rt_ to_ rw_ wa ct rk rb cn br sm as_ go sh_ ir oa ob th ig sp_ ki tg of_ kp sf rs), (aI g to_ 25 tl)] (he_pl g L ln M)) (he_ixP rfl) (he_ndP rfl rfl) 1 rfl rfl) rfl rfl hl.1 rfl (lv_room (Nat.le_of_ble_eq_true rfl)) dX11_earnest_49 ⟨(Nat.le_of_ble_eq_true rfl), (Nat.le_of_ble_eq_true rfl)⟩) hP hD hS hA (he_is [1, 0] [(aM g wa 6 (he_ro 6 r2)), (oX11 m0 0 ta sz_ pl at_ fa fw cs fd rfm rt_ to_ rw_ wa ct rk rb cn br sm as_ go sh_ ir oa ob th ig sp_ ki tg of_ kp sf rs), (aI g to_ 25 tl)] (he_pl g L ln M)) [2] (he_ixP rfl) rfl rfl (he_disP (by decide) rfl) (fun r_17 u_18 H locs h_19 hP hD hS => ?_)
          obtain ⟨sr_20, rfl⟩ : ∃ z, z = u_18 := ⟨_, rfl⟩
          try dsimp only at h_19
          obtain ⟨rfl, hf_21⟩ := h_19
          have hP : va_P g.1 vwCl ([(aI g to_ 25 tl), (oX11 m0 0 ta sz_ pl at_ fa fw cs fd rfm rt_ to_ rw_ wa ct rk rb cn br sm as_ go sh_ ir oa ob th ig sp_ ki tg of_ kp sr_20 rs), (aM g wa 6 (he_ro 6 r2))] ++ he_pl g L ln M) H := hP
          have hD : va_D A ([(aI g to_ 25 tl), (oX11 m0 0 ta sz_ pl at_ fa fw cs fd rfm rt_ to_ rw_ wa ct rk rb cn br sm as_ go sh_ ir oa ob th ig sp_ ki tg of_ kp sr_20 rs), (aM g wa 6 (he_ro 6 r2))] ++ he_pl g L ln M) := hD
          refine lv_goto (tgt := 65) hx hb dX11_earnest_52 (by decide) ?_
          have hP := he_Psub (X := [(aI g to_ 25 tl), (oX11 m0 0 ta sz_ pl at_ fa fw cs fd rfm rt_ to_ rw_ wa ct rk rb cn br sm as_ go sh_ ir oa ob th ig sp_ ki tg of_ kp sr_20 rs), (aM g wa 6 (he_ro 6 r2))]) (X2 := [(oX11 m0 0 ta sz_ pl at_ fa fw cs fd rfm rt_ to_ rw_ wa ct rk rb cn br sm as_ go sh_ ir oa ob th ig sp_ ki tg of_ kp sr_20 rs), (aI g to_ 25 tl), (aM g wa 6 (he_ro 6 r2))]) (P := (he_pl g L ln M)) hP [1, 0, 2] rfl
          have hD := he_Dsub (X := [(aI g to_ 25 tl), (oX11 m0 0 ta sz_ pl at_ fa fw cs fd rfm rt_ to_ rw_ wa ct rk rb cn br sm as_ go sh_ ir oa ob th ig sp_ ki tg of_ kp sr_20 rs), (aM g wa 6 (he_ro 6 r2))]) (X2 := [(oX11 m0 0 ta sz_ pl at_ fa fw cs fd rfm rt_ to_ rw_ wa ct rk rb cn br sm as_ go sh_ ir oa ob th ig sp_ ki tg of_ kp sr_20 rs), (aI g to_ 25 tl), (aM g wa 6 (he_ro 6 r2))]) (P := (he_pl g L ln M)) hD [1, 0, 2] rfl rfl rfl
          exact he_ri hQ hx hb hr hlk hP hD hS dX11_earnest_65 (Nat.le_of_ble_eq_true rfl) (Nat.le_of_ble_eq_true rfl) (sr_20) (rfl) (rfl)
      · exact absurd (by decide) c_12
    · exact absurd c_8 (by decide)
set_option maxHeartbeats 4000000 in
set_option maxRecDepth 100000 in
theorem r_X11_earnest1 (l : Launch) (g : he_G) (m0 : Nat) (fd : Nat) (rfm : Nat) (rt_ : Nat) (to_ : Nat) (rw_ : Nat) (wa : Nat) (rk : Nat) (rb : Nat) (cn : Nat) (br : Nat) (sm : Nat) (as_ : Nat) (go : Nat) (sh_ : Nat) (ki : Nat) (tg : Nat) (of_ : Nat) (kp : Nat) (rs : Nat) (ta : Int32) (sz_ : Int32) (pl : Int32) (at_ : Int32) (fa : Int32) (fw : Int32) (cs : Int32) (ct : Int32) (ir : Int32) (oa : Int32) (ob : Int32) (th : Int32) (ig : Int32) (sp_ : Int32) (sf : Int32) (tw : Int32) (tl : Nat → Int32) (w : Nat) (v : Nat) (L : List Nat) (ln : Nat → Nat) (M : Nat → Nat → Int32) (r2 : Nat → Nat) (a : Nat) (d : Nat) (Wr : Nat → Nat) (htl : tl 0 = nI w) (hw6 : w ≤ 6) (hv : v = if 3 < w then 3 else w) (hv3 : v ≤ 3) (F_r2 : ∀ i, i < 6 → r2 i ∈ L ∧ ln (r2 i) = 2 ∧ True) (ha6 : a ≤ 6) (hd6 : d ≤ 6) (hWm : ∀ k, k < 3 → bt (allN v) k = true → M (r2 k) 0 = nI (Wr k)) (hW9 : ∀ k, Wr k ≤ 99) : he_I l yX11_earnest wsX11_earnest 3 73 0 0 g [.ref m0, .int (nI a), .int (nI d), .int 1] ([(oX11 m0 tw ta sz_ pl at_ fa fw cs fd rfm rt_ to_ rw_ wa ct rk rb cn br sm as_ go sh_ ir oa ob th ig sp_ ki tg of_ kp sf rs), (aI g to_ 25 tl), (aM g wa 6 (he_ro 6 r2))] ++ he_pl g L ln M) (fun (r : Int32) (u : Int32) => r = nI (moC Wr (allN v) a d)) (fun (u : Int32) => [(oX11 m0 0 ta sz_ pl at_ fa fw cs fd rfm rt_ to_ rw_ wa ct rk rb cn br sm as_ go sh_ ir oa ob th ig sp_ ki tg of_ kp u rs), (aI g to_ 25 tl), (aM g wa 6 (he_ro 6 r2))] ++ he_pl g L ln M) := by
  refine he_begin (l := l) (g := g) (y := yX11_earnest) (wl := wsX11_earnest) (fr := 3) (lo := 73) (mc := 0) (ms := 0) (av := [.ref m0, .int (nI a), .int (nI d), .int 1]) (ws := ([(oX11 m0 tw ta sz_ pl at_ fa fw cs fd rfm rt_ to_ rw_ wa ct rk rb cn br sm as_ go sh_ ir oa ob th ig sp_ ki tg of_ kp sf rs), (aI g to_ 25 tl), (aM g wa 6 (he_ro 6 r2))] ++ he_pl g L ln M)) (cc := cX11_earnest) (maxL := 4) (ret := (some .int)) (fun A => va_Qi (fun (r : Int32) (u : Int32) => r = nI (moC Wr (allN v) a d)) (fun u t => he_post g A ((fun (u : Int32) => [(oX11 m0 0 ta sz_ pl at_ fa fw cs fd rfm rt_ to_ rw_ wa ct rk rb cn br sm as_ go sh_ ir oa ob th ig sp_ ki tg of_ kp u rs), (aI g to_ 25 tl), (aM g wa 6 (he_ro 6 r2))] ++ he_pl g L ln M) u) t) A) (by decide) rfl (Nat.le_of_ble_eq_true rfl) ?_
  intro p e s m args below meth c A ls H locs Q hQ hB
  obtain ⟨hx, hb, hr, hml, hown, hts, hlk, hin, hP, hK, hD, hS, hA, hE, hl⟩ := hB
  have hl : lv_has ls 4 [(0, .ref m0), (1, .int (nI a)), (2, .int (nI d)), (3, .int 1)] := hl
  have h79 := all_7 hv3
  have f85 := hts (.fieldLink RX11 85 "HiredEnemyModel" "thrown" "I") (iwoX11_earnest (k := 0) rfl)
  have inX11 : ∀ w ∈ wsX110, w ∈ wsX11_earnest := innX11_earnest_X11
  refine lv_aload_n hx hb dX11_earnest_0 rfl (lv_at hl 0 rfl) ?_
  refine lv_iconst (v := 0) hx hb dX11_earnest_1 (by decide) ?_
  refine va_put (v := .int 0) (ty := .int) (T := TX11) (N := 35) hx hb hts inX11 tyX11 tyX11_ok nmX11 hown hK hP hD hS 0 rfl rfl 0 (by decide) f85 (fun _ h9 => h9) rfl (by decide +kernel) rfl rfl (Nat.le_of_ble_eq_true rfl) dX11_earnest_2 (fun H locs hP hD hS => ?_)
  have hP : va_P g.1 vwCl ([(oX11 m0 0 ta sz_ pl at_ fa fw cs fd rfm rt_ to_ rw_ wa ct rk rb cn br sm as_ go sh_ ir oa ob th ig sp_ ki tg of_ kp sf rs), (aI g to_ 25 tl), (aM g wa 6 (he_ro 6 r2))] ++ he_pl g L ln M) H := hP
  have hD : va_D A ([(oX11 m0 0 ta sz_ pl at_ fa fw cs fd rfm rt_ to_ rw_ wa ct rk rb cn br sm as_ go sh_ ir oa ob th ig sp_ ki tg of_ kp sf rs), (aI g to_ 25 tl), (aM g wa 6 (he_ro 6 r2))] ++ he_pl g L ln M) := hD
  refine lv_aload_n hx hb dX11_earnest_5 rfl (lv_at hl 0 rfl) ?_
  refine lv_iload_n hx hb dX11_earnest_6 rfl (lv_at hl 1 rfl) ?_
  refine lv_iload_n hx hb dX11_earnest_7 rfl (lv_at hl 2 rfl) ?_
  refine he_ci (wc := []) (wr := ([(oX11 m0 0 ta sz_ pl at_ fa fw cs fd rfm rt_ to_ rw_ wa ct rk rb cn br sm as_ go sh_ ir oa ob th ig sp_ ki tg of_ kp sf rs), (aI g to_ 25 tl), (aM g wa 6 (he_ro 6 r2))] ++ (he_pl g L ln M))) (va_runS (As := [.int (nI a), .int (nI d)]) (rest := [.ref m0]) ⟨hx, hb, hml, hown, hts⟩ (c_X11_areTens1 l g (nI a) (nI d) (fun h9 => absurd (he_within_in (k := a) (a := 0) (b := 6) (a0 := 0) (B := 6) rfl rfl (by omega) (by omega) (by decide)) (by rw [h9]; decide)) (fun h9 => absurd (he_within_in (k := d) (a := 0) (b := 6) (a0 := 0) (B := 6) rfl rfl (by omega) (by omega) (by decide)) (by rw [h9]; decide)) H.size) (va_cwS 2 hts gX11_earnest_X11_areTens rfl rfl rfl (by decide +kernel) ⟨Nat.le_of_ble_eq_true rfl, Nat.le_of_ble_eq_true rfl⟩) (he_preS (wc := []) hK hP hD hS hA hE [] rfl rfl) rfl rfl hl.1 rfl (lv_room (Nat.le_of_ble_eq_true rfl)) dX11_earnest_8 ⟨(Nat.le_of_ble_eq_true rfl), (Nat.le_of_ble_eq_true rfl)⟩) hP hD hS hA [] (he_is [0, 1, 2] [(oX11 m0 0 ta sz_ pl at_ fa fw cs fd rfm rt_ to_ rw_ wa ct rk rb cn br sm as_ go sh_ ir oa ob th ig sp_ ki tg of_ kp sf rs), (aI g to_ 25 tl), (aM g wa 6 (he_ro 6 r2))] (he_pl g L ln M)) rfl (he_ixP rfl) (he_ndP rfl rfl) (he_disN (by decide) rfl) (fun r_1 u_2 H locs h_3 hP hD hS => ?_)
  have hP := va_P.swap hP
  have hD := va_D.swap hD
  subst h_3
  have hP : va_P g.1 vwCl ([(oX11 m0 0 ta sz_ pl at_ fa fw cs fd rfm rt_ to_ rw_ wa ct rk rb cn br sm as_ go sh_ ir oa ob th ig sp_ ki tg of_ kp sf rs), (aI g to_ 25 tl), (aM g wa 6 (he_ro 6 r2))] ++ he_pl g L ln M) H := hP
  have hD : va_D A ([(oX11 m0 0 ta sz_ pl at_ fa fw cs fd rfm rt_ to_ rw_ wa ct rk rb cn br sm as_ go sh_ ir oa ob th ig sp_ ki tg of_ kp sf rs), (aI g to_ 25 tl), (aM g wa 6 (he_ro 6 r2))] ++ he_pl g L ln M) := hD
  refine lv_if_eq (tgt := 23) hx hb dX11_earnest_11 (by decide) (fun c_4 => ?_) (fun c_4 => ?_)
  · exact absurd c_4 (by decide)
  · refine lv_iload_n hx hb dX11_earnest_14 rfl (lv_at hl 3 rfl) ?_
    refine lv_iconst (v := 0) hx hb dX11_earnest_15 (by decide) ?_
    refine lv_iconst (v := 1) hx hb dX11_earnest_16 (by decide) ?_
    refine he_ci (wc := []) (wr := ([(oX11 m0 0 ta sz_ pl at_ fa fw cs fd rfm rt_ to_ rw_ wa ct rk rb cn br sm as_ go sh_ ir oa ob th ig sp_ ki tg of_ kp sf rs), (aI g to_ 25 tl), (aM g wa 6 (he_ro 6 r2))] ++ (he_pl g L ln M))) (va_runS (As := [.int 1, .int 0, .int 1]) (rest := [.ref m0]) ⟨hx, hb, hml, hown, hts⟩ (c_X11_in l g 1 0 1 H.size) (va_cwS 3 hts gX11_earnest_X11_in rfl rfl rfl (by decide +kernel) ⟨Nat.le_of_ble_eq_true rfl, Nat.le_of_ble_eq_true rfl⟩) (he_preS (wc := []) hK hP hD hS hA hE [] rfl rfl) rfl rfl hl.1 rfl (lv_room (Nat.le_of_ble_eq_true rfl)) dX11_earnest_17 ⟨(Nat.le_of_ble_eq_true rfl), (Nat.le_of_ble_eq_true rfl)⟩) hP hD hS hA [] (he_is [0, 1, 2] [(oX11 m0 0 ta sz_ pl at_ fa fw cs fd rfm rt_ to_ rw_ wa ct rk rb cn br sm as_ go sh_ ir oa ob th ig sp_ ki tg of_ kp sf rs), (aI g to_ 25 tl), (aM g wa 6 (he_ro 6 r2))] (he_pl g L ln M)) rfl (he_ixP rfl) (he_ndP rfl rfl) (he_disN (by decide) rfl) (fun r_5 u_6 H locs h_7 hP hD hS => ?_)
    have hP := va_P.swap hP
    have hD := va_D.swap hD
    subst h_7
    have hP : va_P g.1 vwCl ([(oX11 m0 0 ta sz_ pl at_ fa fw cs fd rfm rt_ to_ rw_ wa ct rk rb cn br sm as_ go sh_ ir oa ob th ig sp_ ki tg of_ kp sf rs), (aI g to_ 25 tl), (aM g wa 6 (he_ro 6 r2))] ++ he_pl g L ln M) H := hP
    have hD : va_D A ([(oX11 m0 0 ta sz_ pl at_ fa fw cs fd rfm rt_ to_ rw_ wa ct rk rb cn br sm as_ go sh_ ir oa ob th ig sp_ ki tg of_ kp sf rs), (aI g to_ 25 tl), (aM g wa 6 (he_ro 6 r2))] ++ he_pl g L ln M) := hD
    refine he_top (1) (by decide) ?_
    refine lv_if_ne (tgt := 27) hx hb dX11_earnest_20 (by decide) (fun c_8 => ?_) (fun c_8 => ?_)
    · refine lv_iconst (v := 0) hx hb dX11_earnest_27 (by decide) ?_
      refine lv_iconst (v := 1) hx hb dX11_earnest_28 (by decide) ?_
      refine lv_iconst (v := 2) hx hb dX11_earnest_29 (by decide) ?_
      refine he_ci (wc := [(oX11 m0 0 ta sz_ pl at_ fa fw cs fd rfm rt_ to_ rw_ wa ct rk rb cn br sm as_ go sh_ ir oa ob th ig sp_ ki tg of_ kp sf rs)]) (wr := ([(aI g to_ 25 tl), (aM g wa 6 (he_ro 6 r2))] ++ (he_pl g L ln M))) (va_runV (As := [.int 0, .int 1, .int 2]) (rest := []) ⟨hx, hb, hml, hown, hts⟩ (c_X11_bad0 l g m0 fd rfm rt_ to_ rw_ wa rk rb cn br sm as_ go sh_ ki tg of_ kp rs ta sz_ pl at_ fa fw cs ct ir oa ob th ig sp_ sf 1 2 H.size) (cwV 3 hts gX11_earnest_X11_bad rfl rfl rfl (by decide +kernel) ⟨Nat.le_of_ble_eq_true rfl, Nat.le_of_ble_eq_true rfl⟩) (he_preV (wc := [(oX11 m0 0 ta sz_ pl at_ fa fw cs fd rfm rt_ to_ rw_ wa ct rk rb cn br sm as_ go sh_ ir oa ob th ig sp_ ki tg of_ kp sf rs)]) hK hP hD hS hA hE [0] rfl rfl 0 rfl rfl) rfl rfl hl.1 rfl (lv_room (Nat.le_of_ble_eq_true rfl)) dX11_earnest_30 ⟨(Nat.le_of_ble_eq_true rfl), (Nat.le_of_ble_eq_true rfl)⟩) hP hD hS hA [0] (he_is [1, 2] [(oX11 m0 0 ta sz_ pl at_ fa fw cs fd rfm rt_ to_ rw_ wa ct rk rb cn br sm as_ go sh_ ir oa ob th ig sp_ ki tg of_ kp sf rs), (aI g to_ 25 tl), (aM g wa 6 (he_ro 6 r2))] (he_pl g L ln M)) rfl (he_ixP rfl) (he_ndP rfl rfl) (he_disN (by decide) rfl) (fun r_9 u_10 H locs h_11 hP hD hS => ?_)
      have hP := va_P.swap hP
      have hD := va_D.swap hD
      subst h_11
      have hP : va_P g.1 vwCl ([(aI g to_ 25 tl), (aM g wa 6 (he_ro 6 r2)), (oX11 m0 0 ta sz_ pl at_ fa fw cs fd rfm rt_ to_ rw_ wa ct rk rb cn br sm as_ go sh_ ir oa ob th ig sp_ ki tg of_ kp sf rs)] ++ he_pl g L ln M) H := hP
      have hD : va_D A ([(aI g to_ 25 tl), (aM g wa 6 (he_ro 6 r2)), (oX11 m0 0 ta sz_ pl at_ fa fw cs fd rfm rt_ to_ rw_ wa ct rk rb cn br sm as_ go sh_ ir oa ob th ig sp_ ki tg of_ kp sf rs)] ++ he_pl g L ln M) := hD
      refine lv_if_eq (tgt := 38) hx hb dX11_earnest_33 (by decide) (fun c_12 => ?_) (fun c_12 => ?_)
      · refine lv_iload_n hx hb dX11_earnest_38 rfl (lv_at hl 3 rfl) ?_
        refine lv_if_ne (tgt := 55) hx hb dX11_earnest_39 (by decide) (fun c_13 => ?_) (fun c_13 => ?_)
        · refine lv_aload_n hx hb dX11_earnest_55 rfl (lv_at hl 0 rfl) ?_
          refine lv_iload_n hx hb dX11_earnest_56 rfl (lv_at hl 1 rfl) ?_
          refine lv_iload_n hx hb dX11_earnest_57 rfl (lv_at hl 2 rfl) ?_
          refine lv_aload_n hx hb dX11_earnest_58 rfl (lv_at hl 0 rfl) ?_
          refine he_ci (wc := [(oX11 m0 0 ta sz_ pl at_ fa fw cs fd rfm rt_ to_ rw_ wa ct rk rb cn br sm as_ go sh_ ir oa ob th ig sp_ ki tg of_ kp sf rs), (aI g to_ 25 tl)]) (wr := ([(aM g wa 6 (he_ro 6 r2))] ++ (he_pl g L ln M))) (va_runV (As := []) (rest := [.int (nI d), .int (nI a), .ref m0]) ⟨hx, hb, hml, hown, hts⟩ (r_X11_firstWalls l g m0 fd rfm rt_ to_ rw_ wa rk rb cn br sm as_ go sh_ ki tg of_ kp rs ta sz_ pl at_ fa fw cs ct ir oa ob th ig sp_ sf 0 tl w v (by first | assumption | decide | omega) (by first | assumption | decide | omega) (by first | assumption | decide | omega) (by first | assumption | decide | omega) H.size) (cwV 0 hts gX11_earnest_X11_firstWalls rfl rfl rfl (by decide +kernel) ⟨Nat.le_of_ble_eq_true rfl, Nat.le_of_ble_eq_true rfl⟩) (he_preV (wc := [(oX11 m0 0 ta sz_ pl at_ fa fw cs fd rfm rt_ to_ rw_ wa ct rk rb cn br sm as_ go sh_ ir oa ob th ig sp_ ki tg of_ kp sf rs), (aI g to_ 25 tl)]) hK hP hD hS hA hE [2, 0] rfl rfl 2 rfl rfl) rfl rfl hl.1 rfl (lv_room (Nat.le_of_ble_eq_true rfl)) dX11_earnest_59 ⟨(Nat.le_of_ble_eq_true rfl), (Nat.le_of_ble_eq_true rfl)⟩) hP hD hS hA [2, 0] (he_is [1] [(aI g to_ 25 tl), (aM g wa 6 (he_ro 6 r2)), (oX11 m0 0 ta sz_ pl at_ fa fw cs fd rfm rt_ to_ rw_ wa ct rk rb cn br sm as_ go sh_ ir oa ob th ig sp_ ki tg of_ kp sf rs)] (he_pl g L ln M)) rfl (he_ixP rfl) (he_ndP rfl rfl) (he_disN (by decide) rfl) (fun r_14 u_15 H locs h_16 hP hD hS => ?_)
          have hP := va_P.swap hP
          have hD := va_D.swap hD
          subst h_16
          have hP : va_P g.1 vwCl ([(aM g wa 6 (he_ro 6 r2)), (oX11 m0 0 ta sz_ pl at_ fa fw cs fd rfm rt_ to_ rw_ wa ct rk rb cn br sm as_ go sh_ ir oa ob th ig sp_ ki tg of_ kp sf rs), (aI g to_ 25 tl)] ++ he_pl g L ln M) H := hP
          have hD : va_D A ([(aM g wa 6 (he_ro 6 r2)), (oX11 m0 0 ta sz_ pl at_ fa fw cs fd rfm rt_ to_ rw_ wa ct rk rb cn br sm as_ go sh_ ir oa ob th ig sp_ ki tg of_ kp sf rs), (aI g to_ 25 tl)] ++ he_pl g L ln M) := hD
          refine he_ci (wc := ([(oX11 m0 0 ta sz_ pl at_ fa fw cs fd rfm rt_ to_ rw_ wa ct rk rb cn br sm as_ go sh_ ir oa ob th ig sp_ ki tg of_ kp sf rs), (aM g wa 6 (he_ro 6 r2))] ++ (he_pl g L ln M))) (wr := [(aI g to_ 25 tl)]) (va_runV (As := [.int (nI a), .int (nI d), .int (nI (allN v))]) (rest := []) ⟨hx, hb, hml, hown, hts⟩ (r_X11_sureBy l g m0 fd rfm rt_ to_ rw_ wa rk rb cn br sm as_ go sh_ ki tg of_ kp rs ta sz_ pl at_ fa fw cs ct ir oa ob th ig sp_ sf 0 L ln M r2 a d (allN v) Wr (by first | assumption | decide | omega) (by omega) (by first | assumption | decide | omega) (by first | assumption | decide | omega) (by first | assumption | decide | omega) (by first | assumption | decide | omega) H.size) (cwV 3 hts gX11_earnest_X11_sureBy rfl rfl rfl (by decide +kernel) ⟨Nat.le_of_ble_eq_true rfl, Nat.le_of_ble_eq_true rfl⟩) (he_preV (wc := ([(oX11 m0 0 ta sz_ pl at_ fa fw cs fd rfm rt_ to_ rw_ wa ct rk rb cn br sm as_ go sh_ ir oa ob th ig sp_ ki tg of_ kp sf rs), (aM g wa 6 (he_ro 6 r2))] ++ (he_pl g L ln M))) hK hP hD hS hA hE (he_is [1, 0] [(aM g wa 6 (he_ro 6 r2)), (oX11 m0 0 ta sz_ pl at_ fa fw cs fd rfm rt_ to_ rw_ wa ct rk rb cn br sm as_ go sh_ ir oa ob th ig sp_ ki tg of_ kp sf rs), (aI g to_ 25 tl)] (he_pl g L ln M)) (he_ixP rfl) (he_ndP rfl rfl) 1 rfl rfl) rfl rfl hl.1 rfl (lv_room (Nat.le_of_ble_eq_true rfl)) dX11_earnest_62 ⟨(Nat.le_of_ble_eq_true rfl), (Nat.le_of_ble_eq_true rfl)⟩) hP hD hS hA (he_is [1, 0] [(aM g wa 6 (he_ro 6 r2)), (oX11 m0 0 ta sz_ pl at_ fa fw cs fd rfm rt_ to_ rw_ wa ct rk rb cn br sm as_ go sh_ ir oa ob th ig sp_ ki tg of_ kp sf rs), (aI g to_ 25 tl)] (he_pl g L ln M)) [2] (he_ixP rfl) rfl rfl (he_disP (by decide) rfl) (fun r_17 u_18 H locs h_19 hP hD hS => ?_)
          subst h_19
          have hP : va_P g.1 vwCl ([(aI g to_ 25 tl), (oX11 m0 0 ta sz_ pl at_ fa fw cs fd rfm rt_ to_ rw_ wa ct rk rb cn br sm as_ go sh_ ir oa ob th ig sp_ ki tg of_ kp sf rs), (aM g wa 6 (he_ro 6 r2))] ++ he_pl g L ln M) H := hP
          have hD : va_D A ([(aI g to_ 25 tl), (oX11 m0 0 ta sz_ pl at_ fa fw cs fd rfm rt_ to_ rw_ wa ct rk rb cn br sm as_ go sh_ ir oa ob th ig sp_ ki tg of_ kp sf rs), (aM g wa 6 (he_ro 6 r2))] ++ he_pl g L ln M) := hD
          have hP := he_Psub (X := [(aI g to_ 25 tl), (oX11 m0 0 ta sz_ pl at_ fa fw cs fd rfm rt_ to_ rw_ wa ct rk rb cn br sm as_ go sh_ ir oa ob th ig sp_ ki tg of_ kp sf rs), (aM g wa 6 (he_ro 6 r2))]) (X2 := [(oX11 m0 0 ta sz_ pl at_ fa fw cs fd rfm rt_ to_ rw_ wa ct rk rb cn br sm as_ go sh_ ir oa ob th ig sp_ ki tg of_ kp sf rs), (aI g to_ 25 tl), (aM g wa 6 (he_ro 6 r2))]) (P := (he_pl g L ln M)) hP [1, 0, 2] rfl
          have hD := he_Dsub (X := [(aI g to_ 25 tl), (oX11 m0 0 ta sz_ pl at_ fa fw cs fd rfm rt_ to_ rw_ wa ct rk rb cn br sm as_ go sh_ ir oa ob th ig sp_ ki tg of_ kp sf rs), (aM g wa 6 (he_ro 6 r2))]) (X2 := [(oX11 m0 0 ta sz_ pl at_ fa fw cs fd rfm rt_ to_ rw_ wa ct rk rb cn br sm as_ go sh_ ir oa ob th ig sp_ ki tg of_ kp sf rs), (aI g to_ 25 tl), (aM g wa 6 (he_ro 6 r2))]) (P := (he_pl g L ln M)) hD [1, 0, 2] rfl rfl rfl
          exact he_ri hQ hx hb hr hlk hP hD hS dX11_earnest_65 (Nat.le_of_ble_eq_true rfl) (Nat.le_of_ble_eq_true rfl) (sf) (rfl) (rfl)
        · exact absurd c_13 (by decide)
      · exact absurd (by decide) c_12
    · exact absurd c_8 (by decide)
set_option maxHeartbeats 4000000 in
set_option maxRecDepth 100000 in
theorem r_X11_stands (l : Launch) (g : he_G) (m0 : Nat) (fd : Nat) (rfm : Nat) (rt_ : Nat) (to_ : Nat) (rw_ : Nat) (wa : Nat) (rk : Nat) (rb : Nat) (cn : Nat) (br : Nat) (sm : Nat) (as_ : Nat) (go : Nat) (sh_ : Nat) (ki : Nat) (tg : Nat) (of_ : Nat) (kp : Nat) (rs : Nat) (ta : Int32) (sz_ : Int32) (pl : Int32) (at_ : Int32) (fa : Int32) (fw : Int32) (cs : Int32) (ct : Int32) (ir : Int32) (oa : Int32) (ob : Int32) (th : Int32) (ig : Int32) (sp_ : Int32) (sf : Int32) (tw : Int32) (tl : Nat → Int32) (w : Nat) (v : Nat) (L : List Nat) (ln : Nat → Nat) (M : Nat → Nat → Int32) (r2 : Nat → Nat) (a : Nat) (d : Nat) (Wr : Nat → Nat) (htl : tl 0 = nI w) (hw6 : w ≤ 6) (hv : v = if 3 < w then 3 else w) (hv3 : v ≤ 3) (F_r2 : ∀ i, i < 6 → r2 i ∈ L ∧ ln (r2 i) = 2 ∧ True) (ha6 : a ≤ 6) (hd6 : d ≤ 6) (hWm : ∀ k, k < 3 → bt (allN v) k = true → M (r2 k) 0 = nI (Wr k)) (hW9 : ∀ k, Wr k ≤ 99) : he_I l yX11_stands wsX11_stands 3 73 0 0 g [.ref m0, .int (nI a), .int (nI d)] ([(oX11 m0 tw ta sz_ pl at_ fa fw cs fd rfm rt_ to_ rw_ wa ct rk rb cn br sm as_ go sh_ ir oa ob th ig sp_ ki tg of_ kp sf rs), (aI g to_ 25 tl), (aM g wa 6 (he_ro 6 r2))] ++ he_pl g L ln M) (fun (r : Int32) (u : Int32) => r = nI (dsN (dgt (roN (foC Wr (allN v) a d))) v)) (fun (u : Int32) => [(oX11 m0 0 ta sz_ pl at_ fa fw cs fd rfm rt_ to_ rw_ wa ct rk rb cn br sm as_ go sh_ ir oa ob th ig sp_ ki tg of_ kp u rs), (aI g to_ 25 tl), (aM g wa 6 (he_ro 6 r2))] ++ he_pl g L ln M) := by
  refine he_begin (l := l) (g := g) (y := yX11_stands) (wl := wsX11_stands) (fr := 3) (lo := 73) (mc := 0) (ms := 0) (av := [.ref m0, .int (nI a), .int (nI d)]) (ws := ([(oX11 m0 tw ta sz_ pl at_ fa fw cs fd rfm rt_ to_ rw_ wa ct rk rb cn br sm as_ go sh_ ir oa ob th ig sp_ ki tg of_ kp sf rs), (aI g to_ 25 tl), (aM g wa 6 (he_ro 6 r2))] ++ he_pl g L ln M)) (cc := cX11_stands) (maxL := 5) (ret := (some .int)) (fun A => va_Qi (fun (r : Int32) (u : Int32) => r = nI (dsN (dgt (roN (foC Wr (allN v) a d))) v)) (fun u t => he_post g A ((fun (u : Int32) => [(oX11 m0 0 ta sz_ pl at_ fa fw cs fd rfm rt_ to_ rw_ wa ct rk rb cn br sm as_ go sh_ ir oa ob th ig sp_ ki tg of_ kp u rs), (aI g to_ 25 tl), (aM g wa 6 (he_ro 6 r2))] ++ he_pl g L ln M) u) t) A) (by decide) rfl (Nat.le_of_ble_eq_true rfl) ?_
  intro p e s m args below meth c A ls H locs Q hQ hB
  obtain ⟨hx, hb, hr, hml, hown, hts, hlk, hin, hP, hK, hD, hS, hA, hE, hl⟩ := hB
  have hl : lv_has ls 5 [(0, .ref m0), (1, .int (nI a)), (2, .int (nI d))] := hl
  have h79 := all_7 hv3
  have f85 := hts (.fieldLink RX11 85 "HiredEnemyModel" "thrown" "I") (iwoX11_stands (k := 0) rfl)
  have inX11 : ∀ w ∈ wsX110, w ∈ wsX11_stands := innX11_stands_X11
  have f23 := hts (.fieldLink RX11 23 "HiredEnemyModel" "told" "[I") (iwoX11_stands (k := 1) rfl)
  have f244 := hts (.fieldLink RX11 244 "HiredEnemyModel" "safeRow" "I") (iwoX11_stands (k := 2) rfl)
  refine lv_aload_n hx hb dX11_stands_0 rfl (lv_at hl 0 rfl) ?_
  refine lv_iconst (v := 0) hx hb dX11_stands_1 (by decide) ?_
  refine va_put (v := .int 0) (ty := .int) (T := TX11) (N := 35) hx hb hts inX11 tyX11 tyX11_ok nmX11 hown hK hP hD hS 0 rfl rfl 0 (by decide) f85 (fun _ h9 => h9) rfl (by decide +kernel) rfl rfl (Nat.le_of_ble_eq_true rfl) dX11_stands_2 (fun H locs hP hD hS => ?_)
  have hP : va_P g.1 vwCl ([(oX11 m0 0 ta sz_ pl at_ fa fw cs fd rfm rt_ to_ rw_ wa ct rk rb cn br sm as_ go sh_ ir oa ob th ig sp_ ki tg of_ kp sf rs), (aI g to_ 25 tl), (aM g wa 6 (he_ro 6 r2))] ++ he_pl g L ln M) H := hP
  have hD : va_D A ([(oX11 m0 0 ta sz_ pl at_ fa fw cs fd rfm rt_ to_ rw_ wa ct rk rb cn br sm as_ go sh_ ir oa ob th ig sp_ ki tg of_ kp sf rs), (aI g to_ 25 tl), (aM g wa 6 (he_ro 6 r2))] ++ he_pl g L ln M) := hD
  refine lv_aload_n hx hb dX11_stands_5 rfl (lv_at hl 0 rfl) ?_
  refine lv_iload_n hx hb dX11_stands_6 rfl (lv_at hl 1 rfl) ?_
  refine lv_iload_n hx hb dX11_stands_7 rfl (lv_at hl 2 rfl) ?_
  refine he_ci (wc := []) (wr := ([(oX11 m0 0 ta sz_ pl at_ fa fw cs fd rfm rt_ to_ rw_ wa ct rk rb cn br sm as_ go sh_ ir oa ob th ig sp_ ki tg of_ kp sf rs), (aI g to_ 25 tl), (aM g wa 6 (he_ro 6 r2))] ++ (he_pl g L ln M))) (va_runS (As := [.int (nI a), .int (nI d)]) (rest := [.ref m0]) ⟨hx, hb, hml, hown, hts⟩ (c_X11_areTens1 l g (nI a) (nI d) (fun h9 => absurd (he_within_in (k := a) (a := 0) (b := 6) (a0 := 0) (B := 6) rfl rfl (by omega) (by omega) (by decide)) (by rw [h9]; decide)) (fun h9 => absurd (he_within_in (k := d) (a := 0) (b := 6) (a0 := 0) (B := 6) rfl rfl (by omega) (by omega) (by decide)) (by rw [h9]; decide)) H.size) (va_cwS 2 hts gX11_stands_X11_areTens rfl rfl rfl (by decide +kernel) ⟨Nat.le_of_ble_eq_true rfl, Nat.le_of_ble_eq_true rfl⟩) (he_preS (wc := []) hK hP hD hS hA hE [] rfl rfl) rfl rfl hl.1 rfl (lv_room (Nat.le_of_ble_eq_true rfl)) dX11_stands_8 ⟨(Nat.le_of_ble_eq_true rfl), (Nat.le_of_ble_eq_true rfl)⟩) hP hD hS hA [] (he_is [0, 1, 2] [(oX11 m0 0 ta sz_ pl at_ fa fw cs fd rfm rt_ to_ rw_ wa ct rk rb cn br sm as_ go sh_ ir oa ob th ig sp_ ki tg of_ kp sf rs), (aI g to_ 25 tl), (aM g wa 6 (he_ro 6 r2))] (he_pl g L ln M)) rfl (he_ixP rfl) (he_ndP rfl rfl) (he_disN (by decide) rfl) (fun r_1 u_2 H locs h_3 hP hD hS => ?_)
  have hP := va_P.swap hP
  have hD := va_D.swap hD
  subst h_3
  have hP : va_P g.1 vwCl ([(oX11 m0 0 ta sz_ pl at_ fa fw cs fd rfm rt_ to_ rw_ wa ct rk rb cn br sm as_ go sh_ ir oa ob th ig sp_ ki tg of_ kp sf rs), (aI g to_ 25 tl), (aM g wa 6 (he_ro 6 r2))] ++ he_pl g L ln M) H := hP
  have hD : va_D A ([(oX11 m0 0 ta sz_ pl at_ fa fw cs fd rfm rt_ to_ rw_ wa ct rk rb cn br sm as_ go sh_ ir oa ob th ig sp_ ki tg of_ kp sf rs), (aI g to_ 25 tl), (aM g wa 6 (he_ro 6 r2))] ++ he_pl g L ln M) := hD
  refine lv_if_ne (tgt := 18) hx hb dX11_stands_11 (by decide) (fun c_4 => ?_) (fun c_4 => ?_)
  · refine lv_iconst (v := 0) hx hb dX11_stands_18 (by decide) ?_
    refine lv_iconst (v := 1) hx hb dX11_stands_19 (by decide) ?_
    refine lv_iconst (v := 2) hx hb dX11_stands_20 (by decide) ?_
    refine he_ci (wc := [(oX11 m0 0 ta sz_ pl at_ fa fw cs fd rfm rt_ to_ rw_ wa ct rk rb cn br sm as_ go sh_ ir oa ob th ig sp_ ki tg of_ kp sf rs)]) (wr := ([(aI g to_ 25 tl), (aM g wa 6 (he_ro 6 r2))] ++ (he_pl g L ln M))) (va_runV (As := [.int 0, .int 1, .int 2]) (rest := []) ⟨hx, hb, hml, hown, hts⟩ (c_X11_bad0 l g m0 fd rfm rt_ to_ rw_ wa rk rb cn br sm as_ go sh_ ki tg of_ kp rs ta sz_ pl at_ fa fw cs ct ir oa ob th ig sp_ sf 1 2 H.size) (cwV 3 hts gX11_stands_X11_bad rfl rfl rfl (by decide +kernel) ⟨Nat.le_of_ble_eq_true rfl, Nat.le_of_ble_eq_true rfl⟩) (he_preV (wc := [(oX11 m0 0 ta sz_ pl at_ fa fw cs fd rfm rt_ to_ rw_ wa ct rk rb cn br sm as_ go sh_ ir oa ob th ig sp_ ki tg of_ kp sf rs)]) hK hP hD hS hA hE [0] rfl rfl 0 rfl rfl) rfl rfl hl.1 rfl (lv_room (Nat.le_of_ble_eq_true rfl)) dX11_stands_21 ⟨(Nat.le_of_ble_eq_true rfl), (Nat.le_of_ble_eq_true rfl)⟩) hP hD hS hA [0] (he_is [1, 2] [(oX11 m0 0 ta sz_ pl at_ fa fw cs fd rfm rt_ to_ rw_ wa ct rk rb cn br sm as_ go sh_ ir oa ob th ig sp_ ki tg of_ kp sf rs), (aI g to_ 25 tl), (aM g wa 6 (he_ro 6 r2))] (he_pl g L ln M)) rfl (he_ixP rfl) (he_ndP rfl rfl) (he_disN (by decide) rfl) (fun r_5 u_6 H locs h_7 hP hD hS => ?_)
    have hP := va_P.swap hP
    have hD := va_D.swap hD
    subst h_7
    have hP : va_P g.1 vwCl ([(aI g to_ 25 tl), (aM g wa 6 (he_ro 6 r2)), (oX11 m0 0 ta sz_ pl at_ fa fw cs fd rfm rt_ to_ rw_ wa ct rk rb cn br sm as_ go sh_ ir oa ob th ig sp_ ki tg of_ kp sf rs)] ++ he_pl g L ln M) H := hP
    have hD : va_D A ([(aI g to_ 25 tl), (aM g wa 6 (he_ro 6 r2)), (oX11 m0 0 ta sz_ pl at_ fa fw cs fd rfm rt_ to_ rw_ wa ct rk rb cn br sm as_ go sh_ ir oa ob th ig sp_ ki tg of_ kp sf rs)] ++ he_pl g L ln M) := hD
    refine lv_if_eq (tgt := 29) hx hb dX11_stands_24 (by decide) (fun c_8 => ?_) (fun c_8 => ?_)
    · refine lv_aload_n hx hb dX11_stands_29 rfl (lv_at hl 0 rfl) ?_
      refine lv_iload_n hx hb dX11_stands_30 rfl (lv_at hl 1 rfl) ?_
      refine lv_iload_n hx hb dX11_stands_31 rfl (lv_at hl 2 rfl) ?_
      refine lv_aload_n hx hb dX11_stands_32 rfl (lv_at hl 0 rfl) ?_
      refine he_ci (wc := [(oX11 m0 0 ta sz_ pl at_ fa fw cs fd rfm rt_ to_ rw_ wa ct rk rb cn br sm as_ go sh_ ir oa ob th ig sp_ ki tg of_ kp sf rs), (aI g to_ 25 tl)]) (wr := ([(aM g wa 6 (he_ro 6 r2))] ++ (he_pl g L ln M))) (va_runV (As := []) (rest := [.int (nI d), .int (nI a), .ref m0]) ⟨hx, hb, hml, hown, hts⟩ (r_X11_firstWalls l g m0 fd rfm rt_ to_ rw_ wa rk rb cn br sm as_ go sh_ ki tg of_ kp rs ta sz_ pl at_ fa fw cs ct ir oa ob th ig sp_ sf 0 tl w v (by first | assumption | decide | omega) (by first | assumption | decide | omega) (by first | assumption | decide | omega) (by first | assumption | decide | omega) H.size) (cwV 0 hts gX11_stands_X11_firstWalls rfl rfl rfl (by decide +kernel) ⟨Nat.le_of_ble_eq_true rfl, Nat.le_of_ble_eq_true rfl⟩) (he_preV (wc := [(oX11 m0 0 ta sz_ pl at_ fa fw cs fd rfm rt_ to_ rw_ wa ct rk rb cn br sm as_ go sh_ ir oa ob th ig sp_ ki tg of_ kp sf rs), (aI g to_ 25 tl)]) hK hP hD hS hA hE [2, 0] rfl rfl 2 rfl rfl) rfl rfl hl.1 rfl (lv_room (Nat.le_of_ble_eq_true rfl)) dX11_stands_33 ⟨(Nat.le_of_ble_eq_true rfl), (Nat.le_of_ble_eq_true rfl)⟩) hP hD hS hA [2, 0] (he_is [1] [(aI g to_ 25 tl), (aM g wa 6 (he_ro 6 r2)), (oX11 m0 0 ta sz_ pl at_ fa fw cs fd rfm rt_ to_ rw_ wa ct rk rb cn br sm as_ go sh_ ir oa ob th ig sp_ ki tg of_ kp sf rs)] (he_pl g L ln M)) rfl (he_ixP rfl) (he_ndP rfl rfl) (he_disN (by decide) rfl) (fun r_9 u_10 H locs h_11 hP hD hS => ?_)
      have hP := va_P.swap hP
      have hD := va_D.swap hD
      subst h_11
      have hP : va_P g.1 vwCl ([(aM g wa 6 (he_ro 6 r2)), (oX11 m0 0 ta sz_ pl at_ fa fw cs fd rfm rt_ to_ rw_ wa ct rk rb cn br sm as_ go sh_ ir oa ob th ig sp_ ki tg of_ kp sf rs), (aI g to_ 25 tl)] ++ he_pl g L ln M) H := hP
      have hD : va_D A ([(aM g wa 6 (he_ro 6 r2)), (oX11 m0 0 ta sz_ pl at_ fa fw cs fd rfm rt_ to_ rw_ wa ct rk rb cn br sm as_ go sh_ ir oa ob th ig sp_ ki tg of_ kp sf rs), (aI g to_ 25 tl)] ++ he_pl g L ln M) := hD
      refine he_ci (wc := ([(oX11 m0 0 ta sz_ pl at_ fa fw cs fd rfm rt_ to_ rw_ wa ct rk rb cn br sm as_ go sh_ ir oa ob th ig sp_ ki tg of_ kp sf rs), (aM g wa 6 (he_ro 6 r2))] ++ (he_pl g L ln M))) (wr := [(aI g to_ 25 tl)]) (va_runV (As := [.int (nI a), .int (nI d), .int (nI (allN v))]) (rest := []) ⟨hx, hb, hml, hown, hts⟩ (r_X11_safeBy l g m0 fd rfm rt_ to_ rw_ wa rk rb cn br sm as_ go sh_ ki tg of_ kp rs ta sz_ pl at_ fa fw cs ct ir oa ob th ig sp_ sf 0 L ln M r2 a d (allN v) Wr (by first | assumption | decide | omega) (by omega) (by first | assumption | decide | omega) (by first | assumption | decide | omega) (by first | assumption | decide | omega) (by first | assumption | decide | omega) H.size) (cwV 3 hts gX11_stands_X11_safeBy rfl rfl rfl (by decide +kernel) ⟨Nat.le_of_ble_eq_true rfl, Nat.le_of_ble_eq_true rfl⟩) (he_preV (wc := ([(oX11 m0 0 ta sz_ pl at_ fa fw cs fd rfm rt_ to_ rw_ wa ct rk rb cn br sm as_ go sh_ ir oa ob th ig sp_ ki tg of_ kp sf rs), (aM g wa 6 (he_ro 6 r2))] ++ (he_pl g L ln M))) hK hP hD hS hA hE (he_is [1, 0] [(aM g wa 6 (he_ro 6 r2)), (oX11 m0 0 ta sz_ pl at_ fa fw cs fd rfm rt_ to_ rw_ wa ct rk rb cn br sm as_ go sh_ ir oa ob th ig sp_ ki tg of_ kp sf rs), (aI g to_ 25 tl)] (he_pl g L ln M)) (he_ixP rfl) (he_ndP rfl rfl) 1 rfl rfl) rfl rfl hl.1 rfl (lv_room (Nat.le_of_ble_eq_true rfl)) dX11_stands_36 ⟨(Nat.le_of_ble_eq_true rfl), (Nat.le_of_ble_eq_true rfl)⟩) hP hD hS hA (he_is [1, 0] [(aM g wa 6 (he_ro 6 r2)), (oX11 m0 0 ta sz_ pl at_ fa fw cs fd rfm rt_ to_ rw_ wa ct rk rb cn br sm as_ go sh_ ir oa ob th ig sp_ ki tg of_ kp sf rs), (aI g to_ 25 tl)] (he_pl g L ln M)) [2] (he_ixP rfl) rfl rfl (he_disP (by decide) rfl) (fun r_12 u_13 H locs h_14 hP hD hS => ?_)
      obtain ⟨sr_15, rfl⟩ : ∃ z, z = u_13 := ⟨_, rfl⟩
      try dsimp only at h_14
      obtain ⟨rfl, hf_16⟩ := h_14
      have hP : va_P g.1 vwCl ([(aI g to_ 25 tl), (oX11 m0 0 ta sz_ pl at_ fa fw cs fd rfm rt_ to_ rw_ wa ct rk rb cn br sm as_ go sh_ ir oa ob th ig sp_ ki tg of_ kp sr_15 rs), (aM g wa 6 (he_ro 6 r2))] ++ he_pl g L ln M) H := hP
      have hD : va_D A ([(aI g to_ 25 tl), (oX11 m0 0 ta sz_ pl at_ fa fw cs fd rfm rt_ to_ rw_ wa ct rk rb cn br sm as_ go sh_ ir oa ob th ig sp_ ki tg of_ kp sr_15 rs), (aM g wa 6 (he_ro 6 r2))] ++ he_pl g L ln M) := hD
      subst hf_16
      have hP : va_P g.1 vwCl ([(aI g to_ 25 tl), (oX11 m0 0 ta sz_ pl at_ fa fw cs fd rfm rt_ to_ rw_ wa ct rk rb cn br sm as_ go sh_ ir oa ob th ig sp_ ki tg of_ kp (nI (roN (foC Wr (allN v) a d))) rs), (aM g wa 6 (he_ro 6 r2))] ++ he_pl g L ln M) H := hP
      have hD : va_D A ([(aI g to_ 25 tl), (oX11 m0 0 ta sz_ pl at_ fa fw cs fd rfm rt_ to_ rw_ wa ct rk rb cn br sm as_ go sh_ ir oa ob th ig sp_ ki tg of_ kp (nI (roN (foC Wr (allN v) a d))) rs), (aM g wa 6 (he_ro 6 r2))] ++ he_pl g L ln M) := hD
      refine lv_pop hx hb dX11_stands_39 rfl ?_
      refine lv_iconst (v := 0) hx hb dX11_stands_40 (by decide) ?_
      refine lv_istore_n (lv' := [(3, .int 0), (0, .ref m0), (1, .int (nI a)), (2, .int (nI d))]) hx hb dX11_stands_41 rfl hl (by decide) rfl (fun ls hl => ?_)
      refine lv_iconst (v := 0) hx hb dX11_stands_42 (by decide) ?_
      refine lv_istore (lv' := [(4, .int 0), (3, .int 0), (0, .ref m0), (1, .int (nI a)), (2, .int (nI d))]) hx hb dX11_stands_43 hl (by decide) rfl (fun ls hl => ?_)
      have loop45 : ∀ (n9 : Nat) (j : Nat) (ac : Nat), v - j < n9 → (j ≤ v) → (ac = dsN (dgt (roN (foC Wr (allN v) a d))) j) → ∀ (H : Heap) (locs : List Loc) (ls : Array Slot), va_P g.1 vwCl ([(aI g to_ 25 tl), (oX11 m0 0 ta sz_ pl at_ fa fw cs fd rfm rt_ to_ rw_ wa ct rk rb cn br sm as_ go sh_ ir oa ob th ig sp_ ki tg of_ kp (nI (roN (foC Wr (allN v) a d))) rs), (aM g wa 6 (he_ro 6 r2))] ++ he_pl g L ln M) H → va_D A ([(aI g to_ 25 tl), (oX11 m0 0 ta sz_ pl at_ fa fw cs fd rfm rt_ to_ rw_ wa ct rk rb cn br sm as_ go sh_ ir oa ob th ig sp_ ki tg of_ kp (nI (roN (foC Wr (allN v) a d))) rs), (aM g wa 6 (he_ro 6 r2))] ++ he_pl g L ln M) → va_S A s.heap H locs → lv_has ls 5 [(0, .ref m0), (3, .int (nI ac)), (4, .int (nI j))] → W p l e (he_room 3 73 0 0) s m args below meth c H locs 0 0 Q (F0 m 45 ls []) := by
        intro n9
        induction n9 with
        | zero => intro j ac hm9; exact absurd hm9 (Nat.not_lt_zero _)
        | succ n9 ih45 =>
          intro j ac hm9 hj hac H locs ls hP hD hS hl
          refine lv_iload hx hb dX11_stands_45 (lv_at hl 2 rfl) ?_
          refine lv_iconst (v := 3) hx hb dX11_stands_47 (by decide) ?_
          refine lv_aload_n hx hb dX11_stands_48 rfl (lv_at hl 0 rfl) ?_
          refine va_get (v := .ref to_) (T := TX11) (N := 35) hx hb hts inX11 hown hK hP 1 rfl rfl 11 (by decide) f23 (fun _ h9 => h9) rfl dX11_stands_49 ?_
          refine lv_iconst (v := 0) hx hb dX11_stands_52 (by decide) ?_
          refine he_iald hx hb hK hP 0 rfl (0) (by decide) (by decide) (by first | decide | assumption) (nI w) htl dX11_stands_53 ?_
          refine he_ci (wc := []) (wr := ([(aI g to_ 25 tl), (oX11 m0 0 ta sz_ pl at_ fa fw cs fd rfm rt_ to_ rw_ wa ct rk rb cn br sm as_ go sh_ ir oa ob th ig sp_ ki tg of_ kp (nI (roN (foC Wr (allN v) a d))) rs), (aM g wa 6 (he_ro 6 r2))] ++ (he_pl g L ln M))) (va_runS (As := [.int 3, .int (nI w)]) (rest := [.int (nI j)]) ⟨hx, hb, hml, hown, hts⟩ (c_X11_less l g 3 (nI w) H.size) (va_cwS 2 hts gX11_stands_X11_less rfl rfl rfl (by decide +kernel) ⟨Nat.le_of_ble_eq_true rfl, Nat.le_of_ble_eq_true rfl⟩) (he_preS (wc := []) hK hP hD hS hA hE [] rfl rfl) rfl rfl hl.1 rfl (lv_room (Nat.le_of_ble_eq_true rfl)) dX11_stands_54 ⟨(Nat.le_of_ble_eq_true rfl), (Nat.le_of_ble_eq_true rfl)⟩) hP hD hS hA [] (he_is [0, 1, 2] [(aI g to_ 25 tl), (oX11 m0 0 ta sz_ pl at_ fa fw cs fd rfm rt_ to_ rw_ wa ct rk rb cn br sm as_ go sh_ ir oa ob th ig sp_ ki tg of_ kp (nI (roN (foC Wr (allN v) a d))) rs), (aM g wa 6 (he_ro 6 r2))] (he_pl g L ln M)) rfl (he_ixP rfl) (he_ndP rfl rfl) (he_disN (by decide) rfl) (fun r_17 u_18 H locs h_19 hP hD hS => ?_)
          have hP := va_P.swap hP
          have hD := va_D.swap hD
          subst h_19
          have hP : va_P g.1 vwCl ([(aI g to_ 25 tl), (oX11 m0 0 ta sz_ pl at_ fa fw cs fd rfm rt_ to_ rw_ wa ct rk rb cn br sm as_ go sh_ ir oa ob th ig sp_ ki tg of_ kp (nI (roN (foC Wr (allN v) a d))) rs), (aM g wa 6 (he_ro 6 r2))] ++ he_pl g L ln M) H := hP
          have hD : va_D A ([(aI g to_ 25 tl), (oX11 m0 0 ta sz_ pl at_ fa fw cs fd rfm rt_ to_ rw_ wa ct rk rb cn br sm as_ go sh_ ir oa ob th ig sp_ ki tg of_ kp (nI (roN (foC Wr (allN v) a d))) rs), (aM g wa 6 (he_ro 6 r2))] ++ he_pl g L ln M) := hD
          refine he_top (nI v) ((le3 hw6).trans (congrArg nI hv.symm)) ?_
          refine lv_icmp_ge (tgt := 81) hx hb dX11_stands_57 (by decide) (fun c_20 => ?_) (fun c_20 => ?_)
          · have k_21 : v ≤ j := (he_cle (a := v) (b := j) rfl rfl (by omega) (by omega)).mp c_20
            refine lv_iload_n hx hb dX11_stands_81 rfl (lv_at hl 1 rfl) ?_
            have hP := he_Psub (X := [(aI g to_ 25 tl), (oX11 m0 0 ta sz_ pl at_ fa fw cs fd rfm rt_ to_ rw_ wa ct rk rb cn br sm as_ go sh_ ir oa ob th ig sp_ ki tg of_ kp (nI (roN (foC Wr (allN v) a d))) rs), (aM g wa 6 (he_ro 6 r2))]) (X2 := [(oX11 m0 0 ta sz_ pl at_ fa fw cs fd rfm rt_ to_ rw_ wa ct rk rb cn br sm as_ go sh_ ir oa ob th ig sp_ ki tg of_ kp (nI (roN (foC Wr (allN v) a d))) rs), (aI g to_ 25 tl), (aM g wa 6 (he_ro 6 r2))]) (P := (he_pl g L ln M)) hP [1, 0, 2] rfl
            have hD := he_Dsub (X := [(aI g to_ 25 tl), (oX11 m0 0 ta sz_ pl at_ fa fw cs fd rfm rt_ to_ rw_ wa ct rk rb cn br sm as_ go sh_ ir oa ob th ig sp_ ki tg of_ kp (nI (roN (foC Wr (allN v) a d))) rs), (aM g wa 6 (he_ro 6 r2))]) (X2 := [(oX11 m0 0 ta sz_ pl at_ fa fw cs fd rfm rt_ to_ rw_ wa ct rk rb cn br sm as_ go sh_ ir oa ob th ig sp_ ki tg of_ kp (nI (roN (foC Wr (allN v) a d))) rs), (aI g to_ 25 tl), (aM g wa 6 (he_ro 6 r2))]) (P := (he_pl g L ln M)) hD [1, 0, 2] rfl rfl rfl
            exact he_ri hQ hx hb hr hlk hP hD hS dX11_stands_82 (Nat.le_of_ble_eq_true rfl) (Nat.le_of_ble_eq_true rfl) (nI (roN (foC Wr (allN v) a d))) (rfl) ((congrArg nI (by rw [hac, show j = v by omega])))
          · have k_22 : ¬ (v ≤ j) := fun h9 => c_20 ((he_cle (a := v) (b := j) rfl rfl (by omega) (by omega)).mpr h9)
            refine lv_bipush (v := 10) hx hb dX11_stands_60 (by decide) ?_
            refine lv_iload_n hx hb dX11_stands_62 rfl (lv_at hl 1 rfl) ?_
            refine lv_imul hx hb dX11_stands_63 ?_
            refine he_top (nI (10 * ac)) (pk_mul 10 ac) ?_
            refine lv_aload_n hx hb dX11_stands_64 rfl (lv_at hl 0 rfl) ?_
            refine va_get (v := .int (nI (roN (foC Wr (allN v) a d)))) (T := TX11) (N := 35) hx hb hts inX11 hown hK hP 1 rfl rfl 33 (by decide) f244 (fun _ h9 => h9) rfl dX11_stands_65 ?_
            refine lv_iload hx hb dX11_stands_68 (lv_at hl 2 rfl) ?_
            refine he_ci (wc := []) (wr := ([(aI g to_ 25 tl), (oX11 m0 0 ta sz_ pl at_ fa fw cs fd rfm rt_ to_ rw_ wa ct rk rb cn br sm as_ go sh_ ir oa ob th ig sp_ ki tg of_ kp (nI (roN (foC Wr (allN v) a d))) rs), (aM g wa 6 (he_ro 6 r2))] ++ (he_pl g L ln M))) (va_runS (As := [.int (nI (roN (foC Wr (allN v) a d))), .int (nI j)]) (rest := [.int (nI (10 * ac))]) ⟨hx, hb, hml, hown, hts⟩ (r_X11_digit l g (roN (foC Wr (allN v) a d)) j (foC_ro (by omega) hd6) (by first | assumption | decide | omega) H.size) (va_cwS 2 hts gX11_stands_X11_digit rfl rfl rfl (by decide +kernel) ⟨Nat.le_of_ble_eq_true rfl, Nat.le_of_ble_eq_true rfl⟩) (he_preS (wc := []) hK hP hD hS hA hE [] rfl rfl) rfl rfl hl.1 rfl (lv_room (Nat.le_of_ble_eq_true rfl)) dX11_stands_70 ⟨(Nat.le_of_ble_eq_true rfl), (Nat.le_of_ble_eq_true rfl)⟩) hP hD hS hA [] (he_is [0, 1, 2] [(aI g to_ 25 tl), (oX11 m0 0 ta sz_ pl at_ fa fw cs fd rfm rt_ to_ rw_ wa ct rk rb cn br sm as_ go sh_ ir oa ob th ig sp_ ki tg of_ kp (nI (roN (foC Wr (allN v) a d))) rs), (aM g wa 6 (he_ro 6 r2))] (he_pl g L ln M)) rfl (he_ixP rfl) (he_ndP rfl rfl) (he_disN (by decide) rfl) (fun r_23 u_24 H locs h_25 hP hD hS => ?_)
            have hP := va_P.swap hP
            have hD := va_D.swap hD
            subst h_25
            have hP : va_P g.1 vwCl ([(aI g to_ 25 tl), (oX11 m0 0 ta sz_ pl at_ fa fw cs fd rfm rt_ to_ rw_ wa ct rk rb cn br sm as_ go sh_ ir oa ob th ig sp_ ki tg of_ kp (nI (roN (foC Wr (allN v) a d))) rs), (aM g wa 6 (he_ro 6 r2))] ++ he_pl g L ln M) H := hP
            have hD : va_D A ([(aI g to_ 25 tl), (oX11 m0 0 ta sz_ pl at_ fa fw cs fd rfm rt_ to_ rw_ wa ct rk rb cn br sm as_ go sh_ ir oa ob th ig sp_ ki tg of_ kp (nI (roN (foC Wr (allN v) a d))) rs), (aM g wa 6 (he_ro 6 r2))] ++ he_pl g L ln M) := hD
            refine lv_iadd hx hb dX11_stands_73 ?_
            refine he_top (nI (10 * ac + dgt (roN (foC Wr (allN v) a d)) j)) (nI_add (10 * ac) (dgt (roN (foC Wr (allN v) a d)) j)) ?_
            refine lv_istore_n (lv' := [(3, .int (nI (10 * ac + dgt (roN (foC Wr (allN v) a d)) j))), (0, .ref m0), (4, .int (nI j))]) hx hb dX11_stands_74 rfl hl (by decide) rfl (fun ls hl => ?_)
            refine lv_iinc (v := nI (j + 1)) (lv' := [(4, .int (nI (j + 1))), (3, .int (nI (10 * ac + dgt (roN (foC Wr (allN v) a d)) j))), (0, .ref m0)]) hx hb dX11_stands_75 hl (k := 2) rfl (nI_1 j) (by decide) rfl (fun ls hl => ?_)
            refine lv_goto (tgt := 45) hx hb dX11_stands_78 (by decide) ?_
            exact ih45 (j + 1) (10 * ac + dgt (roN (foC Wr (allN v) a d)) j) (by omega) (by omega) (by rw [dsN, ← hac, Nat.mul_comm]) _ _ _ hP hD hS (lv_sub hl [2, 1, 0] rfl)
      exact loop45 ((v - 0) + 1) 0 0 (Nat.lt_succ_self _) (Nat.zero_le _) rfl _ _ _ hP hD hS (lv_sub hl [2, 1, 0] rfl)
    · exact absurd (by decide) c_8
  · exact absurd c_4 (by decide)
set_option maxHeartbeats 4000000 in
set_option maxRecDepth 100000 in
theorem r_X11_show (l : Launch) (g : he_G) (m0 : Nat) (fd : Nat) (rfm : Nat) (rt_ : Nat) (to_ : Nat) (rw_ : Nat) (wa : Nat) (rk : Nat) (rb : Nat) (cn : Nat) (br : Nat) (sm : Nat) (as_ : Nat) (go : Nat) (sh_ : Nat) (ki : Nat) (tg : Nat) (of_ : Nat) (kp : Nat) (rs : Nat) (ta : Int32) (sz_ : Int32) (pl : Int32) (at_ : Int32) (fa : Int32) (fw : Int32) (cs : Int32) (ct : Int32) (ir : Int32) (oa : Int32) (ob : Int32) (th : Int32) (ig : Int32) (sp_ : Int32) (sf : Int32) (tw : Int32) (tl : Nat → Int32) (w : Nat) (v : Nat) (L : List Nat) (ln : Nat → Nat) (M : Nat → Nat → Int32) (r2 : Nat → Nat) (a : Nat) (d : Nat) (Wr : Nat → Nat) (htl : tl 0 = nI w) (hw6 : w ≤ 6) (hv : v = if 3 < w then 3 else w) (hv3 : v ≤ 3) (F_r2 : ∀ i, i < 6 → r2 i ∈ L ∧ ln (r2 i) = 2 ∧ True) (ha6 : a ≤ 6) (hd6 : d ≤ 6) (hWm : ∀ k, k < 3 → bt (allN v) k = true → M (r2 k) 0 = nI (Wr k)) (hW9 : ∀ k, Wr k ≤ 99) : he_I l yX11_show wsX11_show 3 73 0 0 g [.ref m0, .int (nI a), .int (nI d)] ([(oX11 m0 tw ta sz_ pl at_ fa fw cs fd rfm rt_ to_ rw_ wa ct rk rb cn br sm as_ go sh_ ir oa ob th ig sp_ ki tg of_ kp sf rs), (aI g to_ 25 tl), (aM g wa 6 (he_ro 6 r2))] ++ he_pl g L ln M) (fun (r : Int32) (u : Int32) => r = nI (shC Wr v a d v)) (fun (u : Int32) => [(oX11 m0 0 ta sz_ pl at_ fa fw cs fd rfm rt_ to_ rw_ wa ct rk rb cn br sm as_ go sh_ ir oa ob th ig sp_ ki tg of_ kp u rs), (aI g to_ 25 tl), (aM g wa 6 (he_ro 6 r2))] ++ he_pl g L ln M) := by
  refine he_begin (l := l) (g := g) (y := yX11_show) (wl := wsX11_show) (fr := 3) (lo := 73) (mc := 0) (ms := 0) (av := [.ref m0, .int (nI a), .int (nI d)]) (ws := ([(oX11 m0 tw ta sz_ pl at_ fa fw cs fd rfm rt_ to_ rw_ wa ct rk rb cn br sm as_ go sh_ ir oa ob th ig sp_ ki tg of_ kp sf rs), (aI g to_ 25 tl), (aM g wa 6 (he_ro 6 r2))] ++ he_pl g L ln M)) (cc := cX11_show) (maxL := 7) (ret := (some .int)) (fun A => va_Qi (fun (r : Int32) (u : Int32) => r = nI (shC Wr v a d v)) (fun u t => he_post g A ((fun (u : Int32) => [(oX11 m0 0 ta sz_ pl at_ fa fw cs fd rfm rt_ to_ rw_ wa ct rk rb cn br sm as_ go sh_ ir oa ob th ig sp_ ki tg of_ kp u rs), (aI g to_ 25 tl), (aM g wa 6 (he_ro 6 r2))] ++ he_pl g L ln M) u) t) A) (by decide) rfl (Nat.le_of_ble_eq_true rfl) ?_
  intro p e s m args below meth c A ls H locs Q hQ hB
  obtain ⟨hx, hb, hr, hml, hown, hts, hlk, hin, hP, hK, hD, hS, hA, hE, hl⟩ := hB
  have hl : lv_has ls 7 [(0, .ref m0), (1, .int (nI a)), (2, .int (nI d))] := hl
  have h79 := all_7 hv3
  have f85 := hts (.fieldLink RX11 85 "HiredEnemyModel" "thrown" "I") (iwoX11_show (k := 0) rfl)
  have inX11 : ∀ w ∈ wsX110, w ∈ wsX11_show := innX11_show_X11
  refine lv_aload_n hx hb dX11_show_0 rfl (lv_at hl 0 rfl) ?_
  refine lv_iconst (v := 0) hx hb dX11_show_1 (by decide) ?_
  refine va_put (v := .int 0) (ty := .int) (T := TX11) (N := 35) hx hb hts inX11 tyX11 tyX11_ok nmX11 hown hK hP hD hS 0 rfl rfl 0 (by decide) f85 (fun _ h9 => h9) rfl (by decide +kernel) rfl rfl (Nat.le_of_ble_eq_true rfl) dX11_show_2 (fun H locs hP hD hS => ?_)
  have hP : va_P g.1 vwCl ([(oX11 m0 0 ta sz_ pl at_ fa fw cs fd rfm rt_ to_ rw_ wa ct rk rb cn br sm as_ go sh_ ir oa ob th ig sp_ ki tg of_ kp sf rs), (aI g to_ 25 tl), (aM g wa 6 (he_ro 6 r2))] ++ he_pl g L ln M) H := hP
  have hD : va_D A ([(oX11 m0 0 ta sz_ pl at_ fa fw cs fd rfm rt_ to_ rw_ wa ct rk rb cn br sm as_ go sh_ ir oa ob th ig sp_ ki tg of_ kp sf rs), (aI g to_ 25 tl), (aM g wa 6 (he_ro 6 r2))] ++ he_pl g L ln M) := hD
  refine lv_aload_n hx hb dX11_show_5 rfl (lv_at hl 0 rfl) ?_
  refine lv_iload_n hx hb dX11_show_6 rfl (lv_at hl 1 rfl) ?_
  refine lv_iload_n hx hb dX11_show_7 rfl (lv_at hl 2 rfl) ?_
  refine he_ci (wc := []) (wr := ([(oX11 m0 0 ta sz_ pl at_ fa fw cs fd rfm rt_ to_ rw_ wa ct rk rb cn br sm as_ go sh_ ir oa ob th ig sp_ ki tg of_ kp sf rs), (aI g to_ 25 tl), (aM g wa 6 (he_ro 6 r2))] ++ (he_pl g L ln M))) (va_runS (As := [.int (nI a), .int (nI d)]) (rest := [.ref m0]) ⟨hx, hb, hml, hown, hts⟩ (c_X11_areTens1 l g (nI a) (nI d) (fun h9 => absurd (he_within_in (k := a) (a := 0) (b := 6) (a0 := 0) (B := 6) rfl rfl (by omega) (by omega) (by decide)) (by rw [h9]; decide)) (fun h9 => absurd (he_within_in (k := d) (a := 0) (b := 6) (a0 := 0) (B := 6) rfl rfl (by omega) (by omega) (by decide)) (by rw [h9]; decide)) H.size) (va_cwS 2 hts gX11_show_X11_areTens rfl rfl rfl (by decide +kernel) ⟨Nat.le_of_ble_eq_true rfl, Nat.le_of_ble_eq_true rfl⟩) (he_preS (wc := []) hK hP hD hS hA hE [] rfl rfl) rfl rfl hl.1 rfl (lv_room (Nat.le_of_ble_eq_true rfl)) dX11_show_8 ⟨(Nat.le_of_ble_eq_true rfl), (Nat.le_of_ble_eq_true rfl)⟩) hP hD hS hA [] (he_is [0, 1, 2] [(oX11 m0 0 ta sz_ pl at_ fa fw cs fd rfm rt_ to_ rw_ wa ct rk rb cn br sm as_ go sh_ ir oa ob th ig sp_ ki tg of_ kp sf rs), (aI g to_ 25 tl), (aM g wa 6 (he_ro 6 r2))] (he_pl g L ln M)) rfl (he_ixP rfl) (he_ndP rfl rfl) (he_disN (by decide) rfl) (fun r_1 u_2 H locs h_3 hP hD hS => ?_)
  have hP := va_P.swap hP
  have hD := va_D.swap hD
  subst h_3
  have hP : va_P g.1 vwCl ([(oX11 m0 0 ta sz_ pl at_ fa fw cs fd rfm rt_ to_ rw_ wa ct rk rb cn br sm as_ go sh_ ir oa ob th ig sp_ ki tg of_ kp sf rs), (aI g to_ 25 tl), (aM g wa 6 (he_ro 6 r2))] ++ he_pl g L ln M) H := hP
  have hD : va_D A ([(oX11 m0 0 ta sz_ pl at_ fa fw cs fd rfm rt_ to_ rw_ wa ct rk rb cn br sm as_ go sh_ ir oa ob th ig sp_ ki tg of_ kp sf rs), (aI g to_ 25 tl), (aM g wa 6 (he_ro 6 r2))] ++ he_pl g L ln M) := hD
  refine lv_if_ne (tgt := 18) hx hb dX11_show_11 (by decide) (fun c_4 => ?_) (fun c_4 => ?_)
  · refine lv_iconst (v := 0) hx hb dX11_show_18 (by decide) ?_
    refine lv_iconst (v := 1) hx hb dX11_show_19 (by decide) ?_
    refine lv_iconst (v := 2) hx hb dX11_show_20 (by decide) ?_
    refine he_ci (wc := [(oX11 m0 0 ta sz_ pl at_ fa fw cs fd rfm rt_ to_ rw_ wa ct rk rb cn br sm as_ go sh_ ir oa ob th ig sp_ ki tg of_ kp sf rs)]) (wr := ([(aI g to_ 25 tl), (aM g wa 6 (he_ro 6 r2))] ++ (he_pl g L ln M))) (va_runV (As := [.int 0, .int 1, .int 2]) (rest := []) ⟨hx, hb, hml, hown, hts⟩ (c_X11_bad0 l g m0 fd rfm rt_ to_ rw_ wa rk rb cn br sm as_ go sh_ ki tg of_ kp rs ta sz_ pl at_ fa fw cs ct ir oa ob th ig sp_ sf 1 2 H.size) (cwV 3 hts gX11_show_X11_bad rfl rfl rfl (by decide +kernel) ⟨Nat.le_of_ble_eq_true rfl, Nat.le_of_ble_eq_true rfl⟩) (he_preV (wc := [(oX11 m0 0 ta sz_ pl at_ fa fw cs fd rfm rt_ to_ rw_ wa ct rk rb cn br sm as_ go sh_ ir oa ob th ig sp_ ki tg of_ kp sf rs)]) hK hP hD hS hA hE [0] rfl rfl 0 rfl rfl) rfl rfl hl.1 rfl (lv_room (Nat.le_of_ble_eq_true rfl)) dX11_show_21 ⟨(Nat.le_of_ble_eq_true rfl), (Nat.le_of_ble_eq_true rfl)⟩) hP hD hS hA [0] (he_is [1, 2] [(oX11 m0 0 ta sz_ pl at_ fa fw cs fd rfm rt_ to_ rw_ wa ct rk rb cn br sm as_ go sh_ ir oa ob th ig sp_ ki tg of_ kp sf rs), (aI g to_ 25 tl), (aM g wa 6 (he_ro 6 r2))] (he_pl g L ln M)) rfl (he_ixP rfl) (he_ndP rfl rfl) (he_disN (by decide) rfl) (fun r_5 u_6 H locs h_7 hP hD hS => ?_)
    have hP := va_P.swap hP
    have hD := va_D.swap hD
    subst h_7
    have hP : va_P g.1 vwCl ([(aI g to_ 25 tl), (aM g wa 6 (he_ro 6 r2)), (oX11 m0 0 ta sz_ pl at_ fa fw cs fd rfm rt_ to_ rw_ wa ct rk rb cn br sm as_ go sh_ ir oa ob th ig sp_ ki tg of_ kp sf rs)] ++ he_pl g L ln M) H := hP
    have hD : va_D A ([(aI g to_ 25 tl), (aM g wa 6 (he_ro 6 r2)), (oX11 m0 0 ta sz_ pl at_ fa fw cs fd rfm rt_ to_ rw_ wa ct rk rb cn br sm as_ go sh_ ir oa ob th ig sp_ ki tg of_ kp sf rs)] ++ he_pl g L ln M) := hD
    refine lv_if_eq (tgt := 29) hx hb dX11_show_24 (by decide) (fun c_8 => ?_) (fun c_8 => ?_)
    · refine lv_aload_n hx hb dX11_show_29 rfl (lv_at hl 0 rfl) ?_
      refine he_ci (wc := [(oX11 m0 0 ta sz_ pl at_ fa fw cs fd rfm rt_ to_ rw_ wa ct rk rb cn br sm as_ go sh_ ir oa ob th ig sp_ ki tg of_ kp sf rs), (aI g to_ 25 tl)]) (wr := ([(aM g wa 6 (he_ro 6 r2))] ++ (he_pl g L ln M))) (va_runV (As := []) (rest := []) ⟨hx, hb, hml, hown, hts⟩ (r_X11_firstWalls l g m0 fd rfm rt_ to_ rw_ wa rk rb cn br sm as_ go sh_ ki tg of_ kp rs ta sz_ pl at_ fa fw cs ct ir oa ob th ig sp_ sf 0 tl w v (by first | assumption | decide | omega) (by first | assumption | decide | omega) (by first | assumption | decide | omega) (by first | assumption | decide | omega) H.size) (cwV 0 hts gX11_show_X11_firstWalls rfl rfl rfl (by decide +kernel) ⟨Nat.le_of_ble_eq_true rfl, Nat.le_of_ble_eq_true rfl⟩) (he_preV (wc := [(oX11 m0 0 ta sz_ pl at_ fa fw cs fd rfm rt_ to_ rw_ wa ct rk rb cn br sm as_ go sh_ ir oa ob th ig sp_ ki tg of_ kp sf rs), (aI g to_ 25 tl)]) hK hP hD hS hA hE [2, 0] rfl rfl 2 rfl rfl) rfl rfl hl.1 rfl (lv_room (Nat.le_of_ble_eq_true rfl)) dX11_show_30 ⟨(Nat.le_of_ble_eq_true rfl), (Nat.le_of_ble_eq_true rfl)⟩) hP hD hS hA [2, 0] (he_is [1] [(aI g to_ 25 tl), (aM g wa 6 (he_ro 6 r2)), (oX11 m0 0 ta sz_ pl at_ fa fw cs fd rfm rt_ to_ rw_ wa ct rk rb cn br sm as_ go sh_ ir oa ob th ig sp_ ki tg of_ kp sf rs)] (he_pl g L ln M)) rfl (he_ixP rfl) (he_ndP rfl rfl) (he_disN (by decide) rfl) (fun r_9 u_10 H locs h_11 hP hD hS => ?_)
      have hP := va_P.swap hP
      have hD := va_D.swap hD
      subst h_11
      have hP : va_P g.1 vwCl ([(aM g wa 6 (he_ro 6 r2)), (oX11 m0 0 ta sz_ pl at_ fa fw cs fd rfm rt_ to_ rw_ wa ct rk rb cn br sm as_ go sh_ ir oa ob th ig sp_ ki tg of_ kp sf rs), (aI g to_ 25 tl)] ++ he_pl g L ln M) H := hP
      have hD : va_D A ([(aM g wa 6 (he_ro 6 r2)), (oX11 m0 0 ta sz_ pl at_ fa fw cs fd rfm rt_ to_ rw_ wa ct rk rb cn br sm as_ go sh_ ir oa ob th ig sp_ ki tg of_ kp sf rs), (aI g to_ 25 tl)] ++ he_pl g L ln M) := hD
      refine lv_istore_n (lv' := [(3, .int (nI (allN v))), (0, .ref m0), (1, .int (nI a)), (2, .int (nI d))]) hx hb dX11_show_33 rfl hl (by decide) rfl (fun ls hl => ?_)
      refine lv_aload_n hx hb dX11_show_34 rfl (lv_at hl 1 rfl) ?_
      refine lv_iload_n hx hb dX11_show_35 rfl (lv_at hl 2 rfl) ?_
      refine lv_iload_n hx hb dX11_show_36 rfl (lv_at hl 3 rfl) ?_
      refine lv_iload_n hx hb dX11_show_37 rfl (lv_at hl 0 rfl) ?_
      refine he_ci (wc := ([(oX11 m0 0 ta sz_ pl at_ fa fw cs fd rfm rt_ to_ rw_ wa ct rk rb cn br sm as_ go sh_ ir oa ob th ig sp_ ki tg of_ kp sf rs), (aM g wa 6 (he_ro 6 r2))] ++ (he_pl g L ln M))) (wr := [(aI g to_ 25 tl)]) (va_runV (As := [.int (nI a), .int (nI d), .int (nI (allN v))]) (rest := []) ⟨hx, hb, hml, hown, hts⟩ (r_X11_safeBy l g m0 fd rfm rt_ to_ rw_ wa rk rb cn br sm as_ go sh_ ki tg of_ kp rs ta sz_ pl at_ fa fw cs ct ir oa ob th ig sp_ sf 0 L ln M r2 a d (allN v) Wr (by first | assumption | decide | omega) (by omega) (by first | assumption | decide | omega) (by first | assumption | decide | omega) (by first | assumption | decide | omega) (by first | assumption | decide | omega) H.size) (cwV 3 hts gX11_show_X11_safeBy rfl rfl rfl (by decide +kernel) ⟨Nat.le_of_ble_eq_true rfl, Nat.le_of_ble_eq_true rfl⟩) (he_preV (wc := ([(oX11 m0 0 ta sz_ pl at_ fa fw cs fd rfm rt_ to_ rw_ wa ct rk rb cn br sm as_ go sh_ ir oa ob th ig sp_ ki tg of_ kp sf rs), (aM g wa 6 (he_ro 6 r2))] ++ (he_pl g L ln M))) hK hP hD hS hA hE (he_is [1, 0] [(aM g wa 6 (he_ro 6 r2)), (oX11 m0 0 ta sz_ pl at_ fa fw cs fd rfm rt_ to_ rw_ wa ct rk rb cn br sm as_ go sh_ ir oa ob th ig sp_ ki tg of_ kp sf rs), (aI g to_ 25 tl)] (he_pl g L ln M)) (he_ixP rfl) (he_ndP rfl rfl) 1 rfl rfl) rfl rfl hl.1 rfl (lv_room (Nat.le_of_ble_eq_true rfl)) dX11_show_38 ⟨(Nat.le_of_ble_eq_true rfl), (Nat.le_of_ble_eq_true rfl)⟩) hP hD hS hA (he_is [1, 0] [(aM g wa 6 (he_ro 6 r2)), (oX11 m0 0 ta sz_ pl at_ fa fw cs fd rfm rt_ to_ rw_ wa ct rk rb cn br sm as_ go sh_ ir oa ob th ig sp_ ki tg of_ kp sf rs), (aI g to_ 25 tl)] (he_pl g L ln M)) [2] (he_ixP rfl) rfl rfl (he_disP (by decide) rfl) (fun r_12 u_13 H locs h_14 hP hD hS => ?_)
      obtain ⟨sr_15, rfl⟩ : ∃ z, z = u_13 := ⟨_, rfl⟩
      try dsimp only at h_14
      obtain ⟨rfl, hf_16⟩ := h_14
      have hP : va_P g.1 vwCl ([(aI g to_ 25 tl), (oX11 m0 0 ta sz_ pl at_ fa fw cs fd rfm rt_ to_ rw_ wa ct rk rb cn br sm as_ go sh_ ir oa ob th ig sp_ ki tg of_ kp sr_15 rs), (aM g wa 6 (he_ro 6 r2))] ++ he_pl g L ln M) H := hP
      have hD : va_D A ([(aI g to_ 25 tl), (oX11 m0 0 ta sz_ pl at_ fa fw cs fd rfm rt_ to_ rw_ wa ct rk rb cn br sm as_ go sh_ ir oa ob th ig sp_ ki tg of_ kp sr_15 rs), (aM g wa 6 (he_ro 6 r2))] ++ he_pl g L ln M) := hD
      refine lv_istore (lv' := [(4, .int (nI (leN (foC Wr (allN v) a d)))), (3, .int (nI (allN v))), (0, .ref m0), (1, .int (nI a)), (2, .int (nI d))]) hx hb dX11_show_41 hl (by decide) rfl (fun ls hl => ?_)
      refine lv_iconst (v := 0) hx hb dX11_show_43 (by decide) ?_
      refine lv_istore (lv' := [(5, .int 0), (4, .int (nI (leN (foC Wr (allN v) a d)))), (3, .int (nI (allN v))), (0, .ref m0), (1, .int (nI a)), (2, .int (nI d))]) hx hb dX11_show_44 hl (by decide) rfl (fun ls hl => ?_)
      refine lv_iconst (v := 0) hx hb dX11_show_46 (by decide) ?_
      refine lv_istore (lv' := [(6, .int 0), (5, .int 0), (4, .int (nI (leN (foC Wr (allN v) a d)))), (3, .int (nI (allN v))), (0, .ref m0), (1, .int (nI a)), (2, .int (nI d))]) hx hb dX11_show_47 hl (by decide) rfl (fun ls hl => ?_)
      have loop49 : ∀ (n9 : Nat) (j : Nat) (bz : Nat) (sr : Int32), 3 - j < n9 → (j ≤ 3) → (bz = shC Wr v a d (min j v)) → ∀ (H : Heap) (locs : List Loc) (ls : Array Slot), va_P g.1 vwCl ([(oX11 m0 0 ta sz_ pl at_ fa fw cs fd rfm rt_ to_ rw_ wa ct rk rb cn br sm as_ go sh_ ir oa ob th ig sp_ ki tg of_ kp sr rs), (aI g to_ 25 tl), (aM g wa 6 (he_ro 6 r2))] ++ he_pl g L ln M) H → va_D A ([(oX11 m0 0 ta sz_ pl at_ fa fw cs fd rfm rt_ to_ rw_ wa ct rk rb cn br sm as_ go sh_ ir oa ob th ig sp_ ki tg of_ kp sr rs), (aI g to_ 25 tl), (aM g wa 6 (he_ro 6 r2))] ++ he_pl g L ln M) → va_S A s.heap H locs → lv_has ls 7 [(0, .ref m0), (1, .int (nI a)), (2, .int (nI d)), (3, .int (nI (allN v))), (4, .int (nI (leN (foC Wr (allN v) a d)))), (5, .int (nI bz)), (6, .int (nI j))] → W p l e (he_room 3 73 0 0) s m args below meth c H locs 0 0 Q (F0 m 49 ls []) := by
        intro n9
        induction n9 with
        | zero => intro j bz sr hm9; exact absurd hm9 (Nat.not_lt_zero _)
        | succ n9 ih49 =>
          intro j bz sr hm9 hj hrs H locs ls hP hD hS hl
          refine lv_iload hx hb dX11_show_49 (lv_at hl 6 rfl) ?_
          refine lv_iconst (v := 3) hx hb dX11_show_51 (by decide) ?_
          refine lv_icmp_ge (tgt := 99) hx hb dX11_show_52 (by decide) (fun c_17 => ?_) (fun c_17 => ?_)
          · have k_18 : 3 ≤ j := (he_cle (a := 3) (b := j) (by decide) rfl (by omega) (by omega)).mp c_17
            refine lv_iload hx hb dX11_show_99 (lv_at hl 5 rfl) ?_
            exact he_ri hQ hx hb hr hlk hP hD hS dX11_show_101 (Nat.le_of_ble_eq_true rfl) (Nat.le_of_ble_eq_true rfl) (sr) (rfl) ((congrArg nI (by rw [hrs, show min j v = v by omega])))
          · have k_19 : ¬ (3 ≤ j) := fun h9 => c_17 ((he_cle (a := 3) (b := j) (by decide) rfl (by omega) (by omega)).mpr h9)
            refine lv_iload_n hx hb dX11_show_55 rfl (lv_at hl 3 rfl) ?_
            refine lv_iload hx hb dX11_show_56 (lv_at hl 6 rfl) ?_
            refine lv_ishr hx hb dX11_show_58 ?_
            refine lv_iconst (v := 1) hx hb dX11_show_59 (by decide) ?_
            refine lv_iand hx hb dX11_show_60 ?_
            refine he_top (bI (allN v) j) (bI_e (allN v) (by omega) j (by omega)) ?_
            refine lv_iconst (v := 1) hx hb dX11_show_61 (by decide) ?_
            refine lv_icmp_ne (tgt := 93) hx hb dX11_show_62 (by decide) (fun c_20 => ?_) (fun c_20 => ?_)
            · have hbt : ¬ bt (allN v) j = true := bI_n1 c_20
              have hjv : ¬ j < v := fun h9 => hbt (bt_alY v hv3 j h9)
              refine lv_iinc (v := nI (j + 1)) (lv' := [(6, .int (nI (j + 1))), (0, .ref m0), (1, .int (nI a)), (2, .int (nI d)), (3, .int (nI (allN v))), (4, .int (nI (leN (foC Wr (allN v) a d)))), (5, .int (nI bz))]) hx hb dX11_show_93 hl (k := 6) rfl (nI_1 j) (by decide) rfl (fun ls hl => ?_)
              refine lv_goto (tgt := 49) hx hb dX11_show_96 (by decide) ?_
              exact ih49 (j + 1) bz sr (by omega) (by omega) (by rw [show min (j + 1) v = min j v by omega]; exact hrs) _ _ _ hP hD hS (lv_sub hl [1, 2, 3, 4, 5, 6, 0] rfl)
            · have hbt : bt (allN v) j = true := bI_1 c_20
              have hjv : j < v := bt_all v hv3 j (by omega) hbt
              refine lv_aload_n hx hb dX11_show_65 rfl (lv_at hl 0 rfl) ?_
              refine lv_iload_n hx hb dX11_show_66 rfl (lv_at hl 1 rfl) ?_
              refine lv_iload_n hx hb dX11_show_67 rfl (lv_at hl 2 rfl) ?_
              refine lv_iload_n hx hb dX11_show_68 rfl (lv_at hl 3 rfl) ?_
              refine lv_iconst (v := 1) hx hb dX11_show_69 (by decide) ?_
              refine lv_iload hx hb dX11_show_70 (lv_at hl 6 rfl) ?_
              refine lv_ishl hx hb dX11_show_72 ?_
              refine lv_iconst (v := (-1)) hx hb dX11_show_73 (by decide) ?_
              refine lv_ixor hx hb dX11_show_74 ?_
              refine lv_iand hx hb dX11_show_75 ?_
              refine he_top (nI (rmN (allN v) j)) (rm_e (allN v) (by omega) j (by omega)) ?_
              refine he_ci (wc := ([(oX11 m0 0 ta sz_ pl at_ fa fw cs fd rfm rt_ to_ rw_ wa ct rk rb cn br sm as_ go sh_ ir oa ob th ig sp_ ki tg of_ kp sr rs), (aM g wa 6 (he_ro 6 r2))] ++ (he_pl g L ln M))) (wr := [(aI g to_ 25 tl)]) (va_runV (As := [.int (nI a), .int (nI d), .int (nI (rmN (allN v) j))]) (rest := []) ⟨hx, hb, hml, hown, hts⟩ (r_X11_safeBy l g m0 fd rfm rt_ to_ rw_ wa rk rb cn br sm as_ go sh_ ki tg of_ kp rs ta sz_ pl at_ fa fw cs ct ir oa ob th ig sp_ sr 0 L ln M r2 a d (rmN (allN v) j) Wr (by first | assumption | decide | omega) (rm_lt (allN v) (by omega) j (by omega)) (by first | assumption | decide | omega) (by first | assumption | decide | omega) (fun k9 h9 h8 => hWm k9 h9 (rm_sub (allN v) (by omega) j (by omega) k9 h9 h8)) (by first | assumption | decide | omega) H.size) (cwV 3 hts gX11_show_X11_safeBy rfl rfl rfl (by decide +kernel) ⟨Nat.le_of_ble_eq_true rfl, Nat.le_of_ble_eq_true rfl⟩) (he_preV (wc := ([(oX11 m0 0 ta sz_ pl at_ fa fw cs fd rfm rt_ to_ rw_ wa ct rk rb cn br sm as_ go sh_ ir oa ob th ig sp_ ki tg of_ kp sr rs), (aM g wa 6 (he_ro 6 r2))] ++ (he_pl g L ln M))) hK hP hD hS hA hE (he_is [0, 2] [(oX11 m0 0 ta sz_ pl at_ fa fw cs fd rfm rt_ to_ rw_ wa ct rk rb cn br sm as_ go sh_ ir oa ob th ig sp_ ki tg of_ kp sr rs), (aI g to_ 25 tl), (aM g wa 6 (he_ro 6 r2))] (he_pl g L ln M)) (he_ixP rfl) (he_ndP rfl rfl) 0 rfl rfl) rfl rfl hl.1 rfl (lv_room (Nat.le_of_ble_eq_true rfl)) dX11_show_76 ⟨(Nat.le_of_ble_eq_true rfl), (Nat.le_of_ble_eq_true rfl)⟩) hP hD hS hA (he_is [0, 2] [(oX11 m0 0 ta sz_ pl at_ fa fw cs fd rfm rt_ to_ rw_ wa ct rk rb cn br sm as_ go sh_ ir oa ob th ig sp_ ki tg of_ kp sr rs), (aI g to_ 25 tl), (aM g wa 6 (he_ro 6 r2))] (he_pl g L ln M)) [1] (he_ixP rfl) rfl rfl (he_disP (by decide) rfl) (fun r_21 u_22 H locs h_23 hP hD hS => ?_)
              obtain ⟨sr_24, rfl⟩ : ∃ z, z = u_22 := ⟨_, rfl⟩
              try dsimp only at h_23
              obtain ⟨rfl, hf_25⟩ := h_23
              have hP : va_P g.1 vwCl ([(aI g to_ 25 tl), (oX11 m0 0 ta sz_ pl at_ fa fw cs fd rfm rt_ to_ rw_ wa ct rk rb cn br sm as_ go sh_ ir oa ob th ig sp_ ki tg of_ kp sr_24 rs), (aM g wa 6 (he_ro 6 r2))] ++ he_pl g L ln M) H := hP
              have hD : va_D A ([(aI g to_ 25 tl), (oX11 m0 0 ta sz_ pl at_ fa fw cs fd rfm rt_ to_ rw_ wa ct rk rb cn br sm as_ go sh_ ir oa ob th ig sp_ ki tg of_ kp sr_24 rs), (aM g wa 6 (he_ro 6 r2))] ++ he_pl g L ln M) := hD
              refine lv_iload hx hb dX11_show_79 (lv_at hl 4 rfl) ?_
              refine lv_icmp_ne (tgt := 93) hx hb dX11_show_81 (by decide) (fun c_26 => ?_) (fun c_26 => ?_)
              · have heq : ¬ leN (foC Wr (rmN (allN v) j) a d) = leN (foC Wr (allN v) a d) := fun h9 => c_26 (by rw [h9])
                refine lv_iinc (v := nI (j + 1)) (lv' := [(6, .int (nI (j + 1))), (0, .ref m0), (1, .int (nI a)), (2, .int (nI d)), (3, .int (nI (allN v))), (4, .int (nI (leN (foC Wr (allN v) a d)))), (5, .int (nI bz))]) hx hb dX11_show_93 hl (k := 6) rfl (nI_1 j) (by decide) rfl (fun ls hl => ?_)
                refine lv_goto (tgt := 49) hx hb dX11_show_96 (by decide) ?_
                have hP := he_Psub (X := [(aI g to_ 25 tl), (oX11 m0 0 ta sz_ pl at_ fa fw cs fd rfm rt_ to_ rw_ wa ct rk rb cn br sm as_ go sh_ ir oa ob th ig sp_ ki tg of_ kp sr_24 rs), (aM g wa 6 (he_ro 6 r2))]) (X2 := [(oX11 m0 0 ta sz_ pl at_ fa fw cs fd rfm rt_ to_ rw_ wa ct rk rb cn br sm as_ go sh_ ir oa ob th ig sp_ ki tg of_ kp sr_24 rs), (aI g to_ 25 tl), (aM g wa 6 (he_ro 6 r2))]) (P := (he_pl g L ln M)) hP [1, 0, 2] rfl
                have hD := he_Dsub (X := [(aI g to_ 25 tl), (oX11 m0 0 ta sz_ pl at_ fa fw cs fd rfm rt_ to_ rw_ wa ct rk rb cn br sm as_ go sh_ ir oa ob th ig sp_ ki tg of_ kp sr_24 rs), (aM g wa 6 (he_ro 6 r2))]) (X2 := [(oX11 m0 0 ta sz_ pl at_ fa fw cs fd rfm rt_ to_ rw_ wa ct rk rb cn br sm as_ go sh_ ir oa ob th ig sp_ ki tg of_ kp sr_24 rs), (aI g to_ 25 tl), (aM g wa 6 (he_ro 6 r2))]) (P := (he_pl g L ln M)) hD [1, 0, 2] rfl rfl rfl
                exact ih49 (j + 1) bz sr_24 (by omega) (by omega) (by rw [show min (j + 1) v = j + 1 by omega]; exact shC_n (by rw [hrs, show min j v = j by omega]) heq) _ _ _ hP hD hS (lv_sub hl [1, 2, 3, 4, 5, 6, 0] rfl)
              · have heq : leN (foC Wr (rmN (allN v) j) a d) = leN (foC Wr (allN v) a d) := nI_j (by have := leN_le (fo_bo hW9 (rmN (allN v) j) a d); omega) (by have := leN_le (fo_bo hW9 (allN v) a d); omega) c_26
                refine lv_iload hx hb dX11_show_84 (lv_at hl 5 rfl) ?_
                refine lv_iconst (v := 1) hx hb dX11_show_86 (by decide) ?_
                refine lv_iload hx hb dX11_show_87 (lv_at hl 6 rfl) ?_
                refine lv_ishl hx hb dX11_show_89 ?_
                refine lv_ior hx hb dX11_show_90 ?_
                refine he_top (nI (bz + 2 ^ j)) (or_e j (by omega) bz (by rw [hrs, show min j v = j by omega]; exact shC_lt j)) ?_
                refine lv_istore (lv' := [(5, .int (nI (bz + 2 ^ j))), (0, .ref m0), (1, .int (nI a)), (2, .int (nI d)), (3, .int (nI (allN v))), (4, .int (nI (leN (foC Wr (allN v) a d)))), (6, .int (nI j))]) hx hb dX11_show_91 hl (by decide) rfl (fun ls hl => ?_)
                refine lv_iinc (v := nI (j + 1)) (lv' := [(6, .int (nI (j + 1))), (5, .int (nI (bz + 2 ^ j))), (0, .ref m0), (1, .int (nI a)), (2, .int (nI d)), (3, .int (nI (allN v))), (4, .int (nI (leN (foC Wr (allN v) a d))))]) hx hb dX11_show_93 hl (k := 6) rfl (nI_1 j) (by decide) rfl (fun ls hl => ?_)
                refine lv_goto (tgt := 49) hx hb dX11_show_96 (by decide) ?_
                have hP := he_Psub (X := [(aI g to_ 25 tl), (oX11 m0 0 ta sz_ pl at_ fa fw cs fd rfm rt_ to_ rw_ wa ct rk rb cn br sm as_ go sh_ ir oa ob th ig sp_ ki tg of_ kp sr_24 rs), (aM g wa 6 (he_ro 6 r2))]) (X2 := [(oX11 m0 0 ta sz_ pl at_ fa fw cs fd rfm rt_ to_ rw_ wa ct rk rb cn br sm as_ go sh_ ir oa ob th ig sp_ ki tg of_ kp sr_24 rs), (aI g to_ 25 tl), (aM g wa 6 (he_ro 6 r2))]) (P := (he_pl g L ln M)) hP [1, 0, 2] rfl
                have hD := he_Dsub (X := [(aI g to_ 25 tl), (oX11 m0 0 ta sz_ pl at_ fa fw cs fd rfm rt_ to_ rw_ wa ct rk rb cn br sm as_ go sh_ ir oa ob th ig sp_ ki tg of_ kp sr_24 rs), (aM g wa 6 (he_ro 6 r2))]) (X2 := [(oX11 m0 0 ta sz_ pl at_ fa fw cs fd rfm rt_ to_ rw_ wa ct rk rb cn br sm as_ go sh_ ir oa ob th ig sp_ ki tg of_ kp sr_24 rs), (aI g to_ 25 tl), (aM g wa 6 (he_ro 6 r2))]) (P := (he_pl g L ln M)) hD [1, 0, 2] rfl rfl rfl
                exact ih49 (j + 1) (bz + 2 ^ j) sr_24 (by omega) (by omega) (by rw [show min (j + 1) v = j + 1 by omega]; exact shC_y (by rw [hrs, show min j v = j by omega]) heq) _ _ _ hP hD hS (lv_sub hl [2, 3, 4, 5, 6, 1, 0] rfl)
      have hP := he_Psub (X := [(aI g to_ 25 tl), (oX11 m0 0 ta sz_ pl at_ fa fw cs fd rfm rt_ to_ rw_ wa ct rk rb cn br sm as_ go sh_ ir oa ob th ig sp_ ki tg of_ kp sr_15 rs), (aM g wa 6 (he_ro 6 r2))]) (X2 := [(oX11 m0 0 ta sz_ pl at_ fa fw cs fd rfm rt_ to_ rw_ wa ct rk rb cn br sm as_ go sh_ ir oa ob th ig sp_ ki tg of_ kp sr_15 rs), (aI g to_ 25 tl), (aM g wa 6 (he_ro 6 r2))]) (P := (he_pl g L ln M)) hP [1, 0, 2] rfl
      have hD := he_Dsub (X := [(aI g to_ 25 tl), (oX11 m0 0 ta sz_ pl at_ fa fw cs fd rfm rt_ to_ rw_ wa ct rk rb cn br sm as_ go sh_ ir oa ob th ig sp_ ki tg of_ kp sr_15 rs), (aM g wa 6 (he_ro 6 r2))]) (X2 := [(oX11 m0 0 ta sz_ pl at_ fa fw cs fd rfm rt_ to_ rw_ wa ct rk rb cn br sm as_ go sh_ ir oa ob th ig sp_ ki tg of_ kp sr_15 rs), (aI g to_ 25 tl), (aM g wa 6 (he_ro 6 r2))]) (P := (he_pl g L ln M)) hD [1, 0, 2] rfl rfl rfl
      exact loop49 ((3 - 0) + 1) 0 0 sr_15 (Nat.lt_succ_self _) (Nat.zero_le _) (by rw [Nat.zero_min]; rfl) _ _ _ hP hD hS (lv_sub hl [4, 5, 6, 3, 2, 1, 0] rfl)
    · exact absurd (by decide) c_8
  · exact absurd c_4 (by decide)
end
section
/-! what both sides stand for: numbers (0 the tape's letters, 1 walls, 2 contracts, 3 images, 4 things, 5 the month), the tape, rows (0 the fault's place, 1 the refusals), images, the rows of all that is told and of how things stand (mo6) -/
abbrev AbS : Type := (Nat → Nat) × (Nat → Nat) × (Nat → Nat → Int32) × (Nat → (Nat → Nat) × Rw) × Rw
def sN (S : AbS) (i v : Nat) : AbS := ((fun j => if j = i then v else S.1 j), S.2)
def sT (S : AbS) (T : Nat → Nat) : AbS := (S.1, T, S.2.2)
def sR (S : AbS) (i : Nat) (f : Nat → Int32) : AbS := (S.1, S.2.1, (fun j => if j = i then f else S.2.2.1 j), S.2.2.2)
/-- a refusal is counted -/
def rfS (S : AbS) (i : Nat) : AbS := sR S 1 (upd (S.2.2.1 1) i (S.2.2.1 1 i + 1))
theorem rf_ok {rc R : Nat → Int32} {q : Nat} (h : ∀ i, i < 3 → rc i = R i) (hq : q < 3) : ∀ i, i < 3 → upd rc q (rc q + 1) i = upd R q (R q + 1) i := by
  intro i hi
  unfold upd
  split
  · rw [h q hq]
  · exact h i hi
/-- what a call throws (0: nothing), answers, and leaves -/
abbrev AbR : Type := Int32 × Int32 × AbS
def sp_feed (S : AbS) (v1 v2 v3 v4 v5 : Int32) : AbR := if S.1 0 + 20 ≤ 500 then (0, nI (S.1 0 + 20), sT (sN S 0 (S.1 0 + 20)) (pnT5 S.2.1 (S.1 0) v1 v2 v3 v4 v5)) else (0, -1, S)
/-- a siege's text is read: its fault, or the new siege -/
def sgF9 (S : AbS) (c : Nat × Nat) : AbS := sR (sN S 0 0) 0 (fun _ => nI c.2)
/-- rows laid anew -/
def sW (S : AbS) (R : Rw) : AbS := (S.1, S.2.1, S.2.2.1, S.2.2.2.1, R)
def sgR9 (L : List (Nat × List Nat)) (R : Rw) : Rw := fun i => if i = 2 then mtF L 0 tnA else if i = 3 then fdT L 0 (fun _ => 0) else if i = 4 then fdM L 0 (fun _ => 0) else if i = 5 then bgA (fdW L 0) (mtF L 0 tnA) (fdT L 0 (fun _ => 0)) else if i = 30 ∨ i = 31 then fun _ => 0 else R i
def sgN9 (S : AbS) (L : List (Nat × List Nat)) : AbS := sW (sR (sN (sN (sN (sN (sN (sN S 0 0) 1 (fdW L 0)) 2 0) 3 0) 4 0) 5 0) 0 (fun _ => -1)) (sgR9 L S.2.2.2.2)
def sgS (S : AbS) (X : Option (Nat × Nat) × List (Nat × List Nat)) : AbR :=
  match X.1 with
  | some c => (0, nI c.1 - 10, sgF9 S c)
  | none => (0, nI (fdW X.2 0), sgN9 S X.2)
def sp_siege (S : AbS) (x : Int32) : AbR := if he_within x 0 (nI (S.1 0)) = 0 then (1, 0, rfS S 2) else sgS S (txP S.2.1 x.toNatClampNeg wl6 bd6 fl6 61 0 0 0)
def ctR9 (nt : Nat) (L : List (Nat × List Nat)) (R : Rw) : Rw := fun i => if i = 10 + nt then ctC L else if i = 20 + nt then ctB L else R i
def ctN9 (S : AbS) (L : List (Nat × List Nat)) : AbS := sW (sR (sN (sN S 0 0) 2 (S.1 2 + 1)) 0 (fun _ => -1)) (ctR9 (S.1 2) L S.2.2.2.2)
def ctS (S : AbS) (X : Option (Nat × Nat) × List (Nat × List Nat)) : AbR :=
  match X.1 with
  | some c => (0, nI c.1 - 10, sgF9 S c)
  | none => (0, nI (S.1 2), ctN9 S X.2)
def ctF9 (S : AbS) : AbS := sR (sN S 0 0) 0 (fun _ => -1)
def sp_contract (S : AbS) (x : Int32) : AbR := if he_within x 0 (nI (S.1 0)) = 0 ∨ 200 < x then (1, 0, rfS S 2) else if S.1 2 = 6 then (0, -1, ctF9 S) else ctS S (txP S.2.1 x.toNatClampNeg wl5 (bd5 (S.1 1)) (fun b _ => fl5 b) 21 0 0 0)
def sp_fault (S : AbS) : AbR := (0, S.2.2.1 0 0, S)
def sp_told (S : AbS) (x : Int32) : AbR := if he_within x 0 4 = 0 then (1, 0, rfS S 2) else (0, (if x = 0 then nI (S.1 1) else if x = 1 then nI (S.1 2) else if x = 2 then nI (S.1 5) else if x = 3 then S.2.2.2.2 5 10 else S.2.2.2.2 5 11), S)
def sp_wall (S : AbS) (x y : Int32) : AbR := if he_within x 0 (nI (S.1 1) - 1) = 0 then (1, 0, rfS S 1) else if he_within y 0 3 = 0 then (2, 0, rfS S 2) else (0, (if y = 0 then S.2.2.2.2 3 (toN x) else if y = 1 then S.2.2.2.2 5 (12 + toN x) else if y = 2 then S.2.2.2.2 4 (toN x) else S.2.2.2.2 5 (18 + toN x)), S)
def sp_rule (S : AbS) (x y : Int32) : AbR := if he_within x 0 (nI (S.1 2) - 1) = 0 then (1, 0, rfS S 0) else if he_within y 0 6 = 0 then (2, 0, rfS S 2) else (0, S.2.2.2.2 (10 + toN x) (toN y), S)
/-- what the enemy wants -/
def waA (R : Rw) (r k : Int32) : Int32 := R 2 13 * (10 - r) + R 2 14 * k
def sp_wants (S : AbS) (x y : Int32) : AbR := if he_within x 0 9 = 0 ∨ he_within y 0 99 = 0 then (1, 0, rfS S 2) else (0, waA S.2.2.2.2 x y, S)
def sp_sign (S : AbS) (x : Int32) : AbR := if ¬ x = -1 ∧ he_within x 0 (nI (S.1 2) - 1) = 0 then (1, 0, rfS S 0) else (0, S.2.2.2.2 5 10, sW S (rwU S.2.2.2.2 5 (sgF (S.2.2.2.2 5) x)))
def sp_months (S : AbS) (x : Int32) : AbR := if he_within x 1 120 = 0 then (1, 0, rfS S 2) else (0, nI (min x.toNatClampNeg (120 - S.1 5)), sW (sN S 5 (S.1 5 + min x.toNatClampNeg (120 - S.1 5))) (aMs S.2.2.2.2 (S.1 1) (S.1 5) (min x.toNatClampNeg (120 - S.1 5))))
def unA (R : Rw) (mm n : Nat) : Rw := fun i => if i = 5 ∧ 0 < min n mm then R (40 + (mm - min n mm)) else R i
def sp_undo (S : AbS) (x : Int32) : AbR := if he_within x 1 120 = 0 then (1, 0, rfS S 2) else (0, nI (min x.toNatClampNeg (S.1 5)), sW (sN S 5 (S.1 5 - min x.toNatClampNeg (S.1 5))) (unA S.2.2.2.2 (S.1 5) x.toNatClampNeg))
def sp_sums (S : AbS) (x : Int32) : AbR := if he_within x 0 9 = 0 then (1, 0, rfS S 2) else (0, S.2.2.2.2 5 (toN x), S)
def sp_corks (S : AbS) (x y : Int32) : AbR := if he_within y 0 (nI (S.1 1) - 1) = 0 then (1, 0, rfS S 1) else if he_within x 0 119 = 0 then (2, 0, rfS S 2) else (0, (if toN x < S.1 5 then S.2.2.2.2 (200 + toN x) (toN y) else 0), S)
def sp_would (S : AbS) (x y z : Int32) : AbR := if ¬ x = -1 ∧ he_within x 0 (nI (S.1 2) - 1) = 0 then (1, 0, rfS S 0) else if he_within y 1 60 = 0 ∨ he_within z 0 9 = 0 then (2, 0, rfS S 2) else (0, 0, S)
def sp_best (S : AbS) (x y : Int32) : AbR := if he_within x 1 60 = 0 ∨ he_within y 0 1 = 0 then (1, 0, rfS S 2) else (0, 0, S)
def sp_offer (S : AbS) (x y : Int32) : AbR := if he_within x 1 60 = 0 ∨ he_within y 0 3 = 0 then (1, 0, rfS S 2) else (0, 0, S)
/-- how near for so much: the first r from n on -/
def neA (R : Rw) (p k : Int32) : Nat → Nat → Int32
  | 0, _ => -1
  | f + 1, r => if waA R (nI r) k ≤ p then nI r else neA R p k f (r + 1)
def sp_nearest (S : AbS) (x y : Int32) : AbR := if he_within x 0 9999 = 0 ∨ he_within y 0 99 = 0 then (1, 0, rfS S 2) else (0, neA S.2.2.2.2 x y 10 0, S)
def sp_stop (S : AbS) (x y : Int32) : AbR := if he_within x 1 60 = 0 ∨ he_within y 0 1 = 0 then (1, 0, rfS S 2) else (0, 0, S)
def sp_odds (S : AbS) (x y : Int32) : AbR := if he_within x 1 99 = 0 ∨ he_within y 1 99 = 0 then (1, 0, rfS S 2) else (0, 0, sN S 4 0)
def sp_kind (S : AbS) (x y z : Int32) : AbR := if he_within x 0 3 = 0 ∨ he_within y 1 16 = 0 ∨ he_within z 1 16 = 0 then (1, 0, rfS S 2) else (0, 0, S)
/-- one thing more is seen -/
def thS (S : AbS) : AbR := if S.1 4 < 12 then (0, nI (S.1 4 + 1), sN S 4 (S.1 4 + 1)) else (0, -1, S)
def sp_seen (S : AbS) (x : Int32) : AbR := if he_within x 0 3 = 0 then (1, 0, rfS S 2) else thS S
def sp_spy (S : AbS) (b x : Int32) : AbR := if he_within x 1 15 = 0 then (1, 0, rfS S 2) else thS S
def sp_believed (S : AbS) (x : Int32) : AbR := if he_within x 0 1 = 0 then (1, 0, rfS S 2) else (0, 0, S)
/-- the strengths of the walls, how many of them are the first -/
def stS (S : AbS) (k : Nat) : Nat := if k < S.1 1 then toN (S.2.2.2.2 3 k) else 0
def wv (S : AbS) : Nat := if 3 < S.1 1 then 3 else S.1 1
def sp_earnest (S : AbS) (x y z : Int32) : AbR := if he_within x 0 6 = 0 ∨ he_within y 0 6 = 0 ∨ he_within z 0 1 = 0 then (1, 0, rfS S 2) else (0, (if z = 0 then nI (leN (foC (stS S) (allN (wv S)) (toN x) (toN y))) else nI (moC (stS S) (allN (wv S)) (toN x) (toN y))), S)
def sp_stands (S : AbS) (x y : Int32) : AbR := if he_within x 0 6 = 0 ∨ he_within y 0 6 = 0 then (1, 0, rfS S 2) else (0, nI (dsN (dgt (roN (foC (stS S) (allN (wv S)) (toN x) (toN y)))) (wv S)), S)
def sp_show (S : AbS) (x y : Int32) : AbR := if he_within x 0 6 = 0 ∨ he_within y 0 6 = 0 then (1, 0, rfS S 2) else (0, nI (shC (stS S) (wv S) (toN x) (toN y) (wv S)), S)
def sp_offers (S : AbS) (x y z : Int32) : AbR := if he_within x 1 2 = 0 ∨ he_within y 0 11 = 0 ∨ he_within z 0 999 = 0 then (1, 0, rfS S 2) else (0, S.2.2.2.2 (29 + toN x) (toN y), sW S (rwU S.2.2.2.2 (29 + toN x) (upd (S.2.2.2.2 (29 + toN x)) (toN y) z)))
def sp_most (S : AbS) : AbR := (0, nI (bestN (rsN (oA S.2.2.2.2) 12) 0 3), S)
def sp_serves (S : AbS) (x : Int32) : AbR := if he_within x 0 11 = 0 then (1, 0, rfS S 2) else (0, nI (svN (oA S.2.2.2.2) (toN x + 1)), S)
/-- an image is kept; the last one is given back -/
def imS (S : AbS) : AbS := ((fun i => if i = 3 then S.1 3 + 1 else S.1 i), S.2.1, S.2.2.1, (fun j => if j = S.1 3 then (S.1, S.2.2.2.2) else S.2.2.2.1 j), S.2.2.2.2)
/-- what an image gives back -/
def rsR (J R : Rw) : Rw := fun i => if i = 5 ∨ i = 30 ∨ i = 31 ∨ 40 ≤ i then J i else R i
def rsS (S : AbS) : AbS := sW (sN (sN (sN S 3 (S.1 3 - 1)) 4 ((S.2.2.2.1 (S.1 3 - 1)).1 4)) 5 ((S.2.2.2.1 (S.1 3 - 1)).1 5)) (rsR (S.2.2.2.1 (S.1 3 - 1)).2 S.2.2.2.2)
theorem imS_at {S : AbS} {n : Nat} (h : S.1 3 = n) : (imS S).2.2.2.1 n = (S.1, S.2.2.2.2) := by unfold imS; exact if_pos h.symm
theorem imS_ne {S : AbS} {n j : Nat} (h : S.1 3 = n) (hj : ¬ j = n) : (imS S).2.2.2.1 j = S.2.2.2.1 j := by unfold imS; exact if_neg (by rw [h]; exact hj)
def sp_image (S : AbS) : AbR := if S.1 3 = 3 then (0, -1, S) else (0, nI (S.1 3 + 1), imS S)
def sp_restore (S : AbS) : AbR := if S.1 3 = 0 then (0, -1, S) else (0, nI (S.1 3 - 1), rsS S)
def sp_status (S : AbS) (x : Int32) : AbR := if he_within x 0 2 = 0 then (0, -1, S) else (0, S.2.2.1 1 x.toNatClampNeg, S)
def sp_count (S : AbS) (x : Int32) : AbR := if x = 0 then (0, nI (S.1 3), S) else if x = 1 then (0, nI (S.1 0), S) else if x = 2 then (0, nI (S.1 4), S) else (0, -1, S)
theorem pt_okE {T : Nat → Nat} {f : Nat → Int32} {k : Nat} (v1 v2 v3 v4 v5 : Int32) (h : ∀ j, j < k → T j < 256 ∧ f j = sbI (T j)) : ∀ j, j < k + 20 → pnT5 T k v1 v2 v3 v4 v5 j < 256 ∧ ptT5 f k v1 v2 v3 v4 v5 j = sbI (pnT5 T k v1 v2 v3 v4 v5 j) := pt_ok5 h
theorem pn_ltE {T : Nat → Nat} {k j : Nat} (v1 v2 v3 v4 v5 : Int32) (h : ∀ j, j < k → T j < 256) (hj : j < k + 20) : pnT5 T k v1 v2 v3 v4 v5 j < 256 := pn_lt h hj
end
