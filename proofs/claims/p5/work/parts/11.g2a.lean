theorem nI_min3 {w : Nat} (h : w ≤ 6) : (if (3 : Int32) < nI w then 3 else nI w) = nI (if 3 < w then 3 else w) := by
  rcases (show w = 0 ∨ w = 1 ∨ w = 2 ∨ w = 3 ∨ w = 4 ∨ w = 5 ∨ w = 6 by omega) with rfl | rfl | rfl | rfl | rfl | rfl | rfl <;> decide
def allN (v : Nat) : Nat := 2 ^ v - 1
theorem all_N {v : Nat} (h : v ≤ 3) : ((1 : Int32) <<< (nI v &&& 31)) - 1 = nI (allN v) := by
  rcases (show v = 0 ∨ v = 1 ∨ v = 2 ∨ v = 3 by omega) with rfl | rfl | rfl | rfl <;> decide
theorem all_7 {v : Nat} (h : v ≤ 3) : allN v ≤ 7 := by
  rcases (show v = 0 ∨ v = 1 ∨ v = 2 ∨ v = 3 by omega) with rfl | rfl | rfl | rfl <;> decide
set_option maxHeartbeats 4000000 in
set_option maxRecDepth 100000 in
theorem g_X1_prepare (l : Launch) (g : he_G) (v0 : Nat) (v1 : Nat) (v2 : Nat) (v3 : Nat) (ww : Int32) (dg : Int32) (wo : Nat → Int32) (he_ : Nat → Int32) (pf : Nat → Int32) (p0 : Nat) (p1 : Nat) (p2 : Nat) (p3 : Nat) (p4 : Nat) (w : Nat) (st : Nat → Int32) (hw6 : w ≤ 6) : he_V l yX1_prepare wsX1_prepare 1 14 0 0 g [.ref v0, .ref p0] [(oX1 v0 v1 v2 v3 ww dg), (aI g v1 3 wo), (aI g v2 3 he_), (aI g v3 3 pf), (oX6 p0 p1 p2 p3 p4 (nI w)), (aI g p3 6 st)] (fun (u : Nat × (Nat → Int32) × (Nat → Int32)) => u.1 ≤ 3) (fun (u : Nat × (Nat → Int32) × (Nat → Int32)) => [(oX1 v0 v1 v2 v3 (nI u.1) dg), (aI g v1 3 u.2.1), (aI g v2 3 u.2.2), (aI g v3 3 pf), (oX6 p0 p1 p2 p3 p4 (nI w)), (aI g p3 6 st)]) := by
  refine he_begin (l := l) (g := g) (y := yX1_prepare) (wl := wsX1_prepare) (fr := 1) (lo := 14) (mc := 0) (ms := 0) (av := [.ref v0, .ref p0]) (ws := [(oX1 v0 v1 v2 v3 ww dg), (aI g v1 3 wo), (aI g v2 3 he_), (aI g v3 3 pf), (oX6 p0 p1 p2 p3 p4 (nI w)), (aI g p3 6 st)]) (cc := cX1_prepare) (maxL := 3) (ret := none) (fun A => va_Qv (fun (u : Nat × (Nat → Int32) × (Nat → Int32)) => u.1 ≤ 3) (fun u t => he_post g A ((fun (u : Nat × (Nat → Int32) × (Nat → Int32)) => [(oX1 v0 v1 v2 v3 (nI u.1) dg), (aI g v1 3 u.2.1), (aI g v2 3 u.2.2), (aI g v3 3 pf), (oX6 p0 p1 p2 p3 p4 (nI w)), (aI g p3 6 st)]) u) t) A) (by decide) rfl (Nat.le_of_ble_eq_true rfl) ?_
  intro p e s m args below meth c A ls H locs Q hQ hB
  obtain ⟨hx, hb, hr, hml, hown, hts, hlk, hin, hP, hK, hD, hS, hA, hE, hl⟩ := hB
  have hl : lv_has ls 3 [(0, .ref v0), (1, .ref p0)] := hl
  have f21 := hts (.fieldLink RX1 21 "HiredEnemy$Plan" "walls" "I") (iwoX1_prepare (k := 0) rfl)
  have inX6 : ∀ w ∈ wsX60, w ∈ wsX1_prepare := innX1_prepare_X6
  have ml27 := hts (.methodLink RX1 27 Lib.Math.min.name) (iwoX1_prepare (k := 1) rfl)
  have msmin := hts (.static Lib.Math.min.name) (iwoX1_prepare (k := 2) rfl)
  have mi := hts (.initialized "java/lang/Math") (iwoX1_prepare (k := 3) rfl)
  have mcmin := hts (.code Lib.Math.min.name Lib.Math.min.code 2 (some .int)) (iwoX1_prepare (k := 4) rfl)
  have f33 := hts (.fieldLink RX1 33 "HiredEnemy$Battle" "walls" "I") (iwoX1_prepare (k := 5) rfl)
  have inX1 : ∀ w ∈ wsX10, w ∈ wsX1_prepare := innX1_prepare_X1
  have f11 := hts (.fieldLink RX1 11 "HiredEnemy$Battle" "worth" "[I") (iwoX1_prepare (k := 6) rfl)
  have f34 := hts (.fieldLink RX1 34 "HiredEnemy$Plan" "strength" "[I") (iwoX1_prepare (k := 7) rfl)
  have f15 := hts (.fieldLink RX1 15 "HiredEnemy$Battle" "held" "[I") (iwoX1_prepare (k := 8) rfl)
  refine lv_aload_n hx hb dX1_prepare_0 rfl (lv_at hl 0 rfl) ?_
  refine lv_aload_n hx hb dX1_prepare_1 rfl (lv_at hl 1 rfl) ?_
  refine va_get (v := .int (nI w)) (T := TX6) (N := 5) hx hb hts inX6 hown hK hP 4 rfl rfl 4 (by decide) f21 (fun _ h9 => h9) rfl dX1_prepare_2 ?_
  refine lv_iconst (v := 3) hx hb dX1_prepare_5 (by decide) ?_
  refine va_mmin hx hb (by rw [hml]; exact hl.1.symm) hown ml27 msmin mi mcmin (by decide) (Nat.le_of_ble_eq_true rfl) (Nat.le_of_ble_eq_true rfl) (Nat.le_of_ble_eq_true rfl) dX1_prepare_6 ?_
  refine he_top (nI (if 3 < w then 3 else w)) (nI_min3 hw6) ?_
  refine va_put (v := .int (nI (if 3 < w then 3 else w))) (ty := .int) (T := TX1) (N := 5) hx hb hts inX1 tyX1 tyX1_ok nmX1 hown hK hP hD hS 0 rfl rfl 3 (by decide) f33 (fun _ h9 => h9) rfl (by decide +kernel) rfl rfl (Nat.le_of_ble_eq_true rfl) dX1_prepare_9 (fun H locs hP hD hS => ?_)
  have hP : va_P g.1 vwCl [(oX1 v0 v1 v2 v3 (nI (if 3 < w then 3 else w)) dg), (aI g v1 3 wo), (aI g v2 3 he_), (aI g v3 3 pf), (oX6 p0 p1 p2 p3 p4 (nI w)), (aI g p3 6 st)] H := hP
  have hD : va_D A [(oX1 v0 v1 v2 v3 (nI (if 3 < w then 3 else w)) dg), (aI g v1 3 wo), (aI g v2 3 he_), (aI g v3 3 pf), (oX6 p0 p1 p2 p3 p4 (nI w)), (aI g p3 6 st)] := hD
  refine lv_iconst (v := 0) hx hb dX1_prepare_12 (by decide) ?_
  refine lv_istore_n (lv' := [(2, .int 0), (0, .ref v0), (1, .ref p0)]) hx hb dX1_prepare_13 rfl hl (by decide) rfl (fun ls hl => ?_)
  have loop14 : ∀ (n9 : Nat) (j : Nat) (F : Nat → Int32) (G : Nat → Int32), 3 - j < n9 → (j ≤ 3) → ∀ (H : Heap) (locs : List Loc) (ls : Array Slot), va_P g.1 vwCl [(oX1 v0 v1 v2 v3 (nI (if 3 < w then 3 else w)) dg), (aI g v1 3 F), (aI g v2 3 G), (aI g v3 3 pf), (oX6 p0 p1 p2 p3 p4 (nI w)), (aI g p3 6 st)] H → va_D A [(oX1 v0 v1 v2 v3 (nI (if 3 < w then 3 else w)) dg), (aI g v1 3 F), (aI g v2 3 G), (aI g v3 3 pf), (oX6 p0 p1 p2 p3 p4 (nI w)), (aI g p3 6 st)] → va_S A s.heap H locs → lv_has ls 3 [(0, .ref v0), (1, .ref p0), (2, .int (nI j))] → W p l e (he_room 1 14 0 0) s m args below meth c H locs 0 0 Q (F0 m 14 ls []) := by
    intro n9
    induction n9 with
    | zero => intro j F G hm9; exact absurd hm9 (Nat.not_lt_zero _)
    | succ n9 ih14 =>
      intro j F G hm9 hj H locs ls hP hD hS hl
      refine lv_iload_n hx hb dX1_prepare_14 rfl (lv_at hl 2 rfl) ?_
      refine lv_aload_n hx hb dX1_prepare_15 rfl (lv_at hl 0 rfl) ?_
      refine va_get (v := .int (nI (if 3 < w then 3 else w))) (T := TX1) (N := 5) hx hb hts inX1 hown hK hP 0 rfl rfl 3 (by decide) f33 (fun _ h9 => h9) rfl dX1_prepare_16 ?_
      refine lv_icmp_ge (tgt := 55) hx hb dX1_prepare_19 (by decide) (fun c_1 => ?_) (fun c_1 => ?_)
      · exact he_rv hQ hx hb hr hlk hP hD hS dX1_prepare_55 (Nat.le_of_ble_eq_true rfl) (Nat.le_of_ble_eq_true rfl) ((if 3 < w then 3 else w, F, G)) (rfl) ((by split <;> omega))
      · have hk9 : j < 3 := by have := (he_clt (a := j) (b := if 3 < w then 3 else w) rfl rfl (by omega) (by split <;> omega)).mp (Int32.not_le.mp c_1); split at this <;> omega
        refine lv_aload_n hx hb dX1_prepare_22 rfl (lv_at hl 0 rfl) ?_
        refine va_get (v := .ref v1) (T := TX1) (N := 5) hx hb hts inX1 hown hK hP 0 rfl rfl 0 (by decide) f11 (fun _ h9 => h9) rfl dX1_prepare_23 ?_
        refine lv_iload_n hx hb dX1_prepare_26 rfl (lv_at hl 2 rfl) ?_
        refine lv_aload_n hx hb dX1_prepare_27 rfl (lv_at hl 1 rfl) ?_
        refine va_get (v := .ref p3) (T := TX6) (N := 5) hx hb hts inX6 hown hK hP 4 rfl rfl 2 (by decide) f34 (fun _ h9 => h9) rfl dX1_prepare_28 ?_
        refine lv_iload_n hx hb dX1_prepare_31 rfl (lv_at hl 2 rfl) ?_
        refine he_iald hx hb hK hP 5 rfl (j) rfl (by first | assumption | decide | omega) (by first | decide | assumption) (st j) rfl dX1_prepare_32 ?_
        refine he_iast hx hb hK hP hD hS 1 rfl (j) rfl (by first | assumption | decide | omega) (by first | decide | assumption) dX1_prepare_33 (fun H locs hP hD hS => ?_)
        have hP : va_P g.1 vwCl [(oX1 v0 v1 v2 v3 (nI (if 3 < w then 3 else w)) dg), (aI g v1 3 (upd F j (st j))), (aI g v2 3 G), (aI g v3 3 pf), (oX6 p0 p1 p2 p3 p4 (nI w)), (aI g p3 6 st)] H := hP
        have hD : va_D A [(oX1 v0 v1 v2 v3 (nI (if 3 < w then 3 else w)) dg), (aI g v1 3 (upd F j (st j))), (aI g v2 3 G), (aI g v3 3 pf), (oX6 p0 p1 p2 p3 p4 (nI w)), (aI g p3 6 st)] := hD
        refine lv_aload_n hx hb dX1_prepare_34 rfl (lv_at hl 0 rfl) ?_
        refine va_get (v := .ref v2) (T := TX1) (N := 5) hx hb hts inX1 hown hK hP 0 rfl rfl 1 (by decide) f15 (fun _ h9 => h9) rfl dX1_prepare_35 ?_
        refine lv_iload_n hx hb dX1_prepare_38 rfl (lv_at hl 2 rfl) ?_
        refine lv_aload_n hx hb dX1_prepare_39 rfl (lv_at hl 1 rfl) ?_
        refine va_get (v := .ref p3) (T := TX6) (N := 5) hx hb hts inX6 hown hK hP 4 rfl rfl 2 (by decide) f34 (fun _ h9 => h9) rfl dX1_prepare_40 ?_
        refine lv_iload_n hx hb dX1_prepare_43 rfl (lv_at hl 2 rfl) ?_
        refine he_iald hx hb hK hP 5 rfl (j) rfl (by first | assumption | decide | omega) (by first | decide | assumption) (st j) rfl dX1_prepare_44 ?_
        refine lv_bipush (v := 25) hx hb dX1_prepare_45 (by decide) ?_
        refine lv_idiv hx hb dX1_prepare_47 (by decide) ?_
        refine he_iast hx hb hK hP hD hS 2 rfl (j) rfl (by first | assumption | decide | omega) (by first | decide | assumption) dX1_prepare_48 (fun H locs hP hD hS => ?_)
        have hP : va_P g.1 vwCl [(oX1 v0 v1 v2 v3 (nI (if 3 < w then 3 else w)) dg), (aI g v1 3 (upd F j (st j))), (aI g v2 3 (upd G j ((st j) / 25))), (aI g v3 3 pf), (oX6 p0 p1 p2 p3 p4 (nI w)), (aI g p3 6 st)] H := hP
        have hD : va_D A [(oX1 v0 v1 v2 v3 (nI (if 3 < w then 3 else w)) dg), (aI g v1 3 (upd F j (st j))), (aI g v2 3 (upd G j ((st j) / 25))), (aI g v3 3 pf), (oX6 p0 p1 p2 p3 p4 (nI w)), (aI g p3 6 st)] := hD
        refine lv_iinc (v := nI (j + 1)) (lv' := [(2, .int (nI (j + 1))), (0, .ref v0), (1, .ref p0)]) hx hb dX1_prepare_49 hl (k := 2) rfl (nI_1 j) (by decide) rfl (fun ls hl => ?_)
        refine lv_goto (tgt := 14) hx hb dX1_prepare_52 (by decide) ?_
        exact ih14 (j + 1) (upd F j (st j)) (upd G j ((st j) / 25)) (by omega) (by omega) _ _ _ hP hD hS (lv_sub hl [1, 2, 0] rfl)
  exact loop14 ((3 - 0) + 1) 0 wo he_ (Nat.lt_succ_self _) (Nat.zero_le _) _ _ _ hP hD hS (lv_sub hl [1, 2, 0] rfl)
set_option maxHeartbeats 4000000 in
set_option maxRecDepth 100000 in
theorem g_X1_all (l : Launch) (g : he_G) (v0 : Nat) (v1 : Nat) (v2 : Nat) (v3 : Nat) (v : Nat) (dg : Int32) (wo : Nat → Int32) (he_ : Nat → Int32) (pf : Nat → Int32) (hv3 : v ≤ 3) : he_I l yX1_all wsX1_all 0 0 0 0 g [.ref v0] [(oX1 v0 v1 v2 v3 (nI v) dg), (aI g v1 3 wo), (aI g v2 3 he_), (aI g v3 3 pf)] (fun (r : Int32) (u : Unit) => r = nI (allN v)) (fun (u : Unit) => [(oX1 v0 v1 v2 v3 (nI v) dg), (aI g v1 3 wo), (aI g v2 3 he_), (aI g v3 3 pf)]) := by
  refine he_begin (l := l) (g := g) (y := yX1_all) (wl := wsX1_all) (fr := 0) (lo := 0) (mc := 0) (ms := 0) (av := [.ref v0]) (ws := [(oX1 v0 v1 v2 v3 (nI v) dg), (aI g v1 3 wo), (aI g v2 3 he_), (aI g v3 3 pf)]) (cc := cX1_all) (maxL := 1) (ret := (some .int)) (fun A => va_Qi (fun (r : Int32) (u : Unit) => r = nI (allN v)) (fun u t => he_post g A ((fun (u : Unit) => [(oX1 v0 v1 v2 v3 (nI v) dg), (aI g v1 3 wo), (aI g v2 3 he_), (aI g v3 3 pf)]) u) t) A) (by decide) rfl (Nat.le_of_ble_eq_true rfl) ?_
  intro p e s m args below meth c A ls H locs Q hQ hB
  obtain ⟨hx, hb, hr, hml, hown, hts, hlk, hin, hP, hK, hD, hS, hA, hE, hl⟩ := hB
  have hl : lv_has ls 1 [(0, .ref v0)] := hl
  have f33 := hts (.fieldLink RX1 33 "HiredEnemy$Battle" "walls" "I") (iwoX1_all (k := 0) rfl)
  have inX1 : ∀ w ∈ wsX10, w ∈ wsX1_all := innX1_all_X1
  refine lv_iconst (v := 1) hx hb dX1_all_0 (by decide) ?_
  refine lv_aload_n hx hb dX1_all_1 rfl (lv_at hl 0 rfl) ?_
  refine va_get (v := .int (nI v)) (T := TX1) (N := 5) hx hb hts inX1 hown hK hP 0 rfl rfl 3 (by decide) f33 (fun _ h9 => h9) rfl dX1_all_2 ?_
  refine lv_ishl hx hb dX1_all_5 ?_
  refine lv_iconst (v := 1) hx hb dX1_all_6 (by decide) ?_
  refine lv_isub hx hb dX1_all_7 ?_
  refine he_top (nI (allN v)) (all_N hv3) ?_
  exact he_ri hQ hx hb hr hlk hP hD hS dX1_all_8 (Nat.le_of_ble_eq_true rfl) (Nat.le_of_ble_eq_true rfl) (()) (rfl) (rfl)
set_option maxHeartbeats 4000000 in
set_option maxRecDepth 100000 in
theorem g_X1_place (l : Launch) (g : he_G) (v0 : Nat) (v1 : Nat) (v2 : Nat) (v3 : Nat) (v : Nat) (dg : Int32) (wo : Nat → Int32) (he_ : Nat → Int32) (pf : Nat → Int32) (am : Int32) (x : Int32) (y : Int32) (z : Int32)  : he_I l yX1_place wsX1_place 0 0 0 0 g [.ref v0, .int am, .int x, .int y, .int z] [(oX1 v0 v1 v2 v3 (nI v) dg), (aI g v1 3 wo), (aI g v2 3 he_), (aI g v3 3 pf)] (fun (r : Int32) (u : Nat → Int32) => r = 0 ∨ r = 1) (fun (u : Nat → Int32) => [(oX1 v0 v1 v2 v3 (nI v) dg), (aI g v1 3 wo), (aI g v2 3 he_), (aI g v3 3 u)]) := by
  refine he_begin (l := l) (g := g) (y := yX1_place) (wl := wsX1_place) (fr := 0) (lo := 0) (mc := 0) (ms := 0) (av := [.ref v0, .int am, .int x, .int y, .int z]) (ws := [(oX1 v0 v1 v2 v3 (nI v) dg), (aI g v1 3 wo), (aI g v2 3 he_), (aI g v3 3 pf)]) (cc := cX1_place) (maxL := 6) (ret := (some .boolean)) (fun A => va_Qi (fun (r : Int32) (u : Nat → Int32) => r = 0 ∨ r = 1) (fun u t => he_post g A ((fun (u : Nat → Int32) => [(oX1 v0 v1 v2 v3 (nI v) dg), (aI g v1 3 wo), (aI g v2 3 he_), (aI g v3 3 u)]) u) t) A) (by decide) rfl (Nat.le_of_ble_eq_true rfl) ?_
  intro p e s m args below meth c A ls H locs Q hQ hB
  obtain ⟨hx, hb, hr, hml, hown, hts, hlk, hin, hP, hK, hD, hS, hA, hE, hl⟩ := hB
  have hl : lv_has ls 6 [(0, .ref v0), (1, .int am), (2, .int x), (3, .int y), (4, .int z)] := hl
  have f18 := hts (.fieldLink RX1 18 "HiredEnemy$Battle" "put" "[I") (iwoX1_place (k := 0) rfl)
  have inX1 : ∀ w ∈ wsX10, w ∈ wsX1_place := innX1_place_X1
  refine lv_aload_n hx hb dX1_place_0 rfl (lv_at hl 0 rfl) ?_
  refine va_get (v := .ref v3) (T := TX1) (N := 5) hx hb hts inX1 hown hK hP 0 rfl rfl 2 (by decide) f18 (fun _ h9 => h9) rfl dX1_place_1 ?_
  refine lv_iconst (v := 0) hx hb dX1_place_4 (by decide) ?_
  refine lv_iload_n hx hb dX1_place_5 rfl (lv_at hl 2 rfl) ?_
  refine he_iast hx hb hK hP hD hS 3 rfl (0) (by decide) (by decide) (by first | decide | assumption) dX1_place_6 (fun H locs hP hD hS => ?_)
  have hP : va_P g.1 vwCl [(oX1 v0 v1 v2 v3 (nI v) dg), (aI g v1 3 wo), (aI g v2 3 he_), (aI g v3 3 (upd pf 0 x))] H := hP
  have hD : va_D A [(oX1 v0 v1 v2 v3 (nI v) dg), (aI g v1 3 wo), (aI g v2 3 he_), (aI g v3 3 (upd pf 0 x))] := hD
  refine lv_aload_n hx hb dX1_place_7 rfl (lv_at hl 0 rfl) ?_
  refine va_get (v := .ref v3) (T := TX1) (N := 5) hx hb hts inX1 hown hK hP 0 rfl rfl 2 (by decide) f18 (fun _ h9 => h9) rfl dX1_place_8 ?_
  refine lv_iconst (v := 1) hx hb dX1_place_11 (by decide) ?_
  refine lv_iload_n hx hb dX1_place_12 rfl (lv_at hl 3 rfl) ?_
  refine he_iast hx hb hK hP hD hS 3 rfl (1) (by decide) (by decide) (by first | decide | assumption) dX1_place_13 (fun H locs hP hD hS => ?_)
  have hP : va_P g.1 vwCl [(oX1 v0 v1 v2 v3 (nI v) dg), (aI g v1 3 wo), (aI g v2 3 he_), (aI g v3 3 (upd (upd pf 0 x) 1 y))] H := hP
  have hD : va_D A [(oX1 v0 v1 v2 v3 (nI v) dg), (aI g v1 3 wo), (aI g v2 3 he_), (aI g v3 3 (upd (upd pf 0 x) 1 y))] := hD
  refine lv_aload_n hx hb dX1_place_14 rfl (lv_at hl 0 rfl) ?_
  refine va_get (v := .ref v3) (T := TX1) (N := 5) hx hb hts inX1 hown hK hP 0 rfl rfl 2 (by decide) f18 (fun _ h9 => h9) rfl dX1_place_15 ?_
  refine lv_iconst (v := 2) hx hb dX1_place_18 (by decide) ?_
  refine lv_iload hx hb dX1_place_19 (lv_at hl 4 rfl) ?_
  refine he_iast hx hb hK hP hD hS 3 rfl (2) (by decide) (by decide) (by first | decide | assumption) dX1_place_21 (fun H locs hP hD hS => ?_)
  have hP : va_P g.1 vwCl [(oX1 v0 v1 v2 v3 (nI v) dg), (aI g v1 3 wo), (aI g v2 3 he_), (aI g v3 3 (upd (upd (upd pf 0 x) 1 y) 2 z))] H := hP
  have hD : va_D A [(oX1 v0 v1 v2 v3 (nI v) dg), (aI g v1 3 wo), (aI g v2 3 he_), (aI g v3 3 (upd (upd (upd pf 0 x) 1 y) 2 z))] := hD
  refine lv_iconst (v := 0) hx hb dX1_place_22 (by decide) ?_
  refine lv_istore (lv' := [(5, .int 0), (0, .ref v0), (1, .int am), (2, .int x), (3, .int y), (4, .int z)]) hx hb dX1_place_23 hl (by decide) rfl (fun ls hl => ?_)
  have loop25 : ∀ (n9 : Nat) (j : Nat), 3 - j < n9 → (j ≤ 3) → ∀ (H : Heap) (locs : List Loc) (ls : Array Slot), va_P g.1 vwCl [(oX1 v0 v1 v2 v3 (nI v) dg), (aI g v1 3 wo), (aI g v2 3 he_), (aI g v3 3 (upd (upd (upd pf 0 x) 1 y) 2 z))] H → va_D A [(oX1 v0 v1 v2 v3 (nI v) dg), (aI g v1 3 wo), (aI g v2 3 he_), (aI g v3 3 (upd (upd (upd pf 0 x) 1 y) 2 z))] → va_S A s.heap H locs → lv_has ls 6 [(0, .ref v0), (1, .int am), (5, .int (nI j))] → W p l e (he_room 0 0 0 0) s m args below meth c H locs 0 0 Q (F0 m 25 ls []) := by
    intro n9
    induction n9 with
    | zero => intro j hm9; exact absurd hm9 (Nat.not_lt_zero _)
    | succ n9 ih25 =>
      intro j hm9 hj H locs ls hP hD hS hl
      refine lv_iload hx hb dX1_place_25 (lv_at hl 2 rfl) ?_
      refine lv_iconst (v := 3) hx hb dX1_place_27 (by decide) ?_
      refine lv_icmp_ge (tgt := 58) hx hb dX1_place_28 (by decide) (fun c_1 => ?_) (fun c_1 => ?_)
      · have k_2 : 3 ≤ j := (he_cle (a := 3) (b := j) (by decide) rfl (by omega) (by omega)).mp c_1
        refine lv_iconst (v := 1) hx hb dX1_place_58 (by decide) ?_
        exact he_rz hQ hx hb hr hlk hP hD hS dX1_place_59 (Nat.le_of_ble_eq_true rfl) (Nat.le_of_ble_eq_true rfl) rfl (upd (upd (upd pf 0 x) 1 y) 2 z) (rfl) (Or.inr rfl)
      · have k_3 : ¬ (3 ≤ j) := fun h9 => c_1 ((he_cle (a := 3) (b := j) (by decide) rfl (by omega) (by omega)).mpr h9)
        refine lv_aload_n hx hb dX1_place_31 rfl (lv_at hl 0 rfl) ?_
        refine va_get (v := .ref v3) (T := TX1) (N := 5) hx hb hts inX1 hown hK hP 0 rfl rfl 2 (by decide) f18 (fun _ h9 => h9) rfl dX1_place_32 ?_
        refine lv_iload hx hb dX1_place_35 (lv_at hl 2 rfl) ?_
        refine he_iald hx hb hK hP 3 rfl (j) rfl (by first | assumption | decide | omega) (by first | decide | assumption) ((upd (upd (upd pf 0 x) 1 y) 2 z) j) rfl dX1_place_37 ?_
        refine lv_if_le (tgt := 52) hx hb dX1_place_38 (by decide) (fun c_4 => ?_) (fun c_4 => ?_)
        · refine lv_iinc (v := nI (j + 1)) (lv' := [(5, .int (nI (j + 1))), (0, .ref v0), (1, .int am)]) hx hb dX1_place_52 hl (k := 2) rfl (nI_1 j) (by decide) rfl (fun ls hl => ?_)
          refine lv_goto (tgt := 25) hx hb dX1_place_55 (by decide) ?_
          exact ih25 (j + 1) (by omega) (by omega) _ _ _ hP hD hS (lv_sub hl [1, 2, 0] rfl)
        · refine lv_iload_n hx hb dX1_place_41 rfl (lv_at hl 1 rfl) ?_
          refine lv_iload hx hb dX1_place_42 (lv_at hl 2 rfl) ?_
          refine lv_ishr hx hb dX1_place_44 ?_
          refine lv_iconst (v := 1) hx hb dX1_place_45 (by decide) ?_
          refine lv_iand hx hb dX1_place_46 ?_
          refine lv_if_ne (tgt := 52) hx hb dX1_place_47 (by decide) (fun c_5 => ?_) (fun c_5 => ?_)
          · refine lv_iinc (v := nI (j + 1)) (lv' := [(5, .int (nI (j + 1))), (0, .ref v0), (1, .int am)]) hx hb dX1_place_52 hl (k := 2) rfl (nI_1 j) (by decide) rfl (fun ls hl => ?_)
            refine lv_goto (tgt := 25) hx hb dX1_place_55 (by decide) ?_
            exact ih25 (j + 1) (by omega) (by omega) _ _ _ hP hD hS (lv_sub hl [1, 2, 0] rfl)
          · refine lv_iconst (v := 0) hx hb dX1_place_50 (by decide) ?_
            exact he_rz hQ hx hb hr hlk hP hD hS dX1_place_51 (Nat.le_of_ble_eq_true rfl) (Nat.le_of_ble_eq_true rfl) rfl (upd (upd (upd pf 0 x) 1 y) 2 z) (rfl) (Or.inl rfl)
  exact loop25 ((3 - 0) + 1) 0 (Nat.lt_succ_self _) (Nat.zero_le _) _ _ _ hP hD hS (lv_sub hl [1, 2, 0] rfl)
set_option maxHeartbeats 4000000 in
set_option maxRecDepth 100000 in
theorem g_X1_digits (l : Launch) (g : he_G) (v0 : Nat) (v1 : Nat) (v2 : Nat) (v3 : Nat) (v : Nat) (dg : Int32) (wo : Nat → Int32) (he_ : Nat → Int32) (pf : Nat → Int32) (hv3 : v ≤ 3) : he_I l yX1_digits wsX1_digits 0 0 0 0 g [.ref v0] [(oX1 v0 v1 v2 v3 (nI v) dg), (aI g v1 3 wo), (aI g v2 3 he_), (aI g v3 3 pf)] (fun (r : Int32) (u : Unit) => True) (fun (u : Unit) => [(oX1 v0 v1 v2 v3 (nI v) dg), (aI g v1 3 wo), (aI g v2 3 he_), (aI g v3 3 pf)]) := by
  refine he_begin (l := l) (g := g) (y := yX1_digits) (wl := wsX1_digits) (fr := 0) (lo := 0) (mc := 0) (ms := 0) (av := [.ref v0]) (ws := [(oX1 v0 v1 v2 v3 (nI v) dg), (aI g v1 3 wo), (aI g v2 3 he_), (aI g v3 3 pf)]) (cc := cX1_digits) (maxL := 3) (ret := (some .int)) (fun A => va_Qi (fun (r : Int32) (u : Unit) => True) (fun u t => he_post g A ((fun (u : Unit) => [(oX1 v0 v1 v2 v3 (nI v) dg), (aI g v1 3 wo), (aI g v2 3 he_), (aI g v3 3 pf)]) u) t) A) (by decide) rfl (Nat.le_of_ble_eq_true rfl) ?_
  intro p e s m args below meth c A ls H locs Q hQ hB
  obtain ⟨hx, hb, hr, hml, hown, hts, hlk, hin, hP, hK, hD, hS, hA, hE, hl⟩ := hB
  have hl : lv_has ls 3 [(0, .ref v0)] := hl
  have f33 := hts (.fieldLink RX1 33 "HiredEnemy$Battle" "walls" "I") (iwoX1_digits (k := 0) rfl)
  have inX1 : ∀ w ∈ wsX10, w ∈ wsX1_digits := innX1_digits_X1
  have f18 := hts (.fieldLink RX1 18 "HiredEnemy$Battle" "put" "[I") (iwoX1_digits (k := 1) rfl)
  refine lv_iconst (v := 0) hx hb dX1_digits_0 (by decide) ?_
  refine lv_istore_n (lv' := [(1, .int 0), (0, .ref v0)]) hx hb dX1_digits_1 rfl hl (by decide) rfl (fun ls hl => ?_)
  refine lv_iconst (v := 0) hx hb dX1_digits_2 (by decide) ?_
  refine lv_istore_n (lv' := [(2, .int 0), (1, .int 0), (0, .ref v0)]) hx hb dX1_digits_3 rfl hl (by decide) rfl (fun ls hl => ?_)
  have loop4 : ∀ (n9 : Nat) (j : Nat) (ac : Int32), 3 - j < n9 → (j ≤ 3) → ∀ (H : Heap) (locs : List Loc) (ls : Array Slot), va_P g.1 vwCl [(oX1 v0 v1 v2 v3 (nI v) dg), (aI g v1 3 wo), (aI g v2 3 he_), (aI g v3 3 pf)] H → va_D A [(oX1 v0 v1 v2 v3 (nI v) dg), (aI g v1 3 wo), (aI g v2 3 he_), (aI g v3 3 pf)] → va_S A s.heap H locs → lv_has ls 3 [(0, .ref v0), (1, .int ac), (2, .int (nI j))] → W p l e (he_room 0 0 0 0) s m args below meth c H locs 0 0 Q (F0 m 4 ls []) := by
    intro n9
    induction n9 with
    | zero => intro j ac hm9; exact absurd hm9 (Nat.not_lt_zero _)
    | succ n9 ih4 =>
      intro j ac hm9 hj H locs ls hP hD hS hl
      refine lv_iload_n hx hb dX1_digits_4 rfl (lv_at hl 2 rfl) ?_
      refine lv_aload_n hx hb dX1_digits_5 rfl (lv_at hl 0 rfl) ?_
      refine va_get (v := .int (nI v)) (T := TX1) (N := 5) hx hb hts inX1 hown hK hP 0 rfl rfl 3 (by decide) f33 (fun _ h9 => h9) rfl dX1_digits_6 ?_
      refine lv_icmp_ge (tgt := 30) hx hb dX1_digits_9 (by decide) (fun c_1 => ?_) (fun c_1 => ?_)
      · have k_2 : v ≤ j := (he_cle (a := v) (b := j) rfl rfl (by omega) (by omega)).mp c_1
        refine lv_iload_n hx hb dX1_digits_30 rfl (lv_at hl 1 rfl) ?_
        exact he_ri hQ hx hb hr hlk hP hD hS dX1_digits_31 (Nat.le_of_ble_eq_true rfl) (Nat.le_of_ble_eq_true rfl) (()) (rfl) (trivial)
      · have k_3 : ¬ (v ≤ j) := fun h9 => c_1 ((he_cle (a := v) (b := j) rfl rfl (by omega) (by omega)).mpr h9)
        refine lv_iload_n hx hb dX1_digits_12 rfl (lv_at hl 1 rfl) ?_
        refine lv_bipush (v := 10) hx hb dX1_digits_13 (by decide) ?_
        refine lv_imul hx hb dX1_digits_15 ?_
        refine lv_aload_n hx hb dX1_digits_16 rfl (lv_at hl 0 rfl) ?_
        refine va_get (v := .ref v3) (T := TX1) (N := 5) hx hb hts inX1 hown hK hP 0 rfl rfl 2 (by decide) f18 (fun _ h9 => h9) rfl dX1_digits_17 ?_
        refine lv_iload_n hx hb dX1_digits_20 rfl (lv_at hl 2 rfl) ?_
        refine he_iald hx hb hK hP 3 rfl (j) rfl (by first | assumption | decide | omega) (by first | decide | assumption) (pf j) rfl dX1_digits_21 ?_
        refine lv_iadd hx hb dX1_digits_22 ?_
        refine lv_istore_n (lv' := [(1, .int ((ac * 10) + (pf j))), (0, .ref v0), (2, .int (nI j))]) hx hb dX1_digits_23 rfl hl (by decide) rfl (fun ls hl => ?_)
        refine lv_iinc (v := nI (j + 1)) (lv' := [(2, .int (nI (j + 1))), (1, .int ((ac * 10) + (pf j))), (0, .ref v0)]) hx hb dX1_digits_24 hl (k := 2) rfl (nI_1 j) (by decide) rfl (fun ls hl => ?_)
        refine lv_goto (tgt := 4) hx hb dX1_digits_27 (by decide) ?_
        exact ih4 (j + 1) ((ac * 10) + (pf j)) (by omega) (by omega) _ _ _ hP hD hS (lv_sub hl [2, 1, 0] rfl)
  exact loop4 ((3 - 0) + 1) 0 0 (Nat.lt_succ_self _) (Nat.zero_le _) _ _ _ hP hD hS (lv_sub hl [2, 1, 0] rfl)
set_option maxHeartbeats 4000000 in
set_option maxRecDepth 100000 in
theorem g_X1_menToFell (l : Launch) (g : he_G) (v0 : Nat) (v1 : Nat) (v2 : Nat) (v3 : Nat) (v : Nat) (dg : Int32) (wo : Nat → Int32) (he_ : Nat → Int32) (pf : Nat → Int32) (se : Int32) (hv3 : v ≤ 3) : he_I l yX1_menToFell wsX1_menToFell 0 0 0 0 g [.ref v0, .int se] [(oX1 v0 v1 v2 v3 (nI v) dg), (aI g v1 3 wo), (aI g v2 3 he_), (aI g v3 3 pf)] (fun (r : Int32) (u : Unit) => True) (fun (u : Unit) => [(oX1 v0 v1 v2 v3 (nI v) dg), (aI g v1 3 wo), (aI g v2 3 he_), (aI g v3 3 pf)]) := by
  refine he_begin (l := l) (g := g) (y := yX1_menToFell) (wl := wsX1_menToFell) (fr := 0) (lo := 0) (mc := 0) (ms := 0) (av := [.ref v0, .int se]) (ws := [(oX1 v0 v1 v2 v3 (nI v) dg), (aI g v1 3 wo), (aI g v2 3 he_), (aI g v3 3 pf)]) (cc := cX1_menToFell) (maxL := 4) (ret := (some .int)) (fun A => va_Qi (fun (r : Int32) (u : Unit) => True) (fun u t => he_post g A ((fun (u : Unit) => [(oX1 v0 v1 v2 v3 (nI v) dg), (aI g v1 3 wo), (aI g v2 3 he_), (aI g v3 3 pf)]) u) t) A) (by decide) rfl (Nat.le_of_ble_eq_true rfl) ?_
  intro p e s m args below meth c A ls H locs Q hQ hB
  obtain ⟨hx, hb, hr, hml, hown, hts, hlk, hin, hP, hK, hD, hS, hA, hE, hl⟩ := hB
  have hl : lv_has ls 4 [(0, .ref v0), (1, .int se)] := hl
  have f18 := hts (.fieldLink RX1 18 "HiredEnemy$Battle" "put" "[I") (iwoX1_menToFell (k := 0) rfl)
  have inX1 : ∀ w ∈ wsX10, w ∈ wsX1_menToFell := innX1_menToFell_X1
  have f15 := hts (.fieldLink RX1 15 "HiredEnemy$Battle" "held" "[I") (iwoX1_menToFell (k := 1) rfl)
  refine lv_iconst (v := 0) hx hb dX1_menToFell_0 (by decide) ?_
  refine lv_istore_n (lv' := [(2, .int 0), (0, .ref v0), (1, .int se)]) hx hb dX1_menToFell_1 rfl hl (by decide) rfl (fun ls hl => ?_)
  refine lv_iconst (v := 0) hx hb dX1_menToFell_2 (by decide) ?_
  refine lv_istore_n (lv' := [(3, .int 0), (2, .int 0), (0, .ref v0), (1, .int se)]) hx hb dX1_menToFell_3 rfl hl (by decide) rfl (fun ls hl => ?_)
  have loop4 : ∀ (n9 : Nat) (j : Nat) (ac : Int32), 3 - j < n9 → (j ≤ 3) → ∀ (H : Heap) (locs : List Loc) (ls : Array Slot), va_P g.1 vwCl [(oX1 v0 v1 v2 v3 (nI v) dg), (aI g v1 3 wo), (aI g v2 3 he_), (aI g v3 3 pf)] H → va_D A [(oX1 v0 v1 v2 v3 (nI v) dg), (aI g v1 3 wo), (aI g v2 3 he_), (aI g v3 3 pf)] → va_S A s.heap H locs → lv_has ls 4 [(0, .ref v0), (1, .int se), (2, .int ac), (3, .int (nI j))] → W p l e (he_room 0 0 0 0) s m args below meth c H locs 0 0 Q (F0 m 4 ls []) := by
    intro n9
    induction n9 with
    | zero => intro j ac hm9; exact absurd hm9 (Nat.not_lt_zero _)
    | succ n9 ih4 =>
      intro j ac hm9 hj H locs ls hP hD hS hl
      refine lv_iload_n hx hb dX1_menToFell_4 rfl (lv_at hl 3 rfl) ?_
      refine lv_iconst (v := 3) hx hb dX1_menToFell_5 (by decide) ?_
      refine lv_icmp_ge (tgt := 42) hx hb dX1_menToFell_6 (by decide) (fun c_1 => ?_) (fun c_1 => ?_)
      · have k_2 : 3 ≤ j := (he_cle (a := 3) (b := j) (by decide) rfl (by omega) (by omega)).mp c_1
        refine lv_iload_n hx hb dX1_menToFell_42 rfl (lv_at hl 2 rfl) ?_
        exact he_ri hQ hx hb hr hlk hP hD hS dX1_menToFell_43 (Nat.le_of_ble_eq_true rfl) (Nat.le_of_ble_eq_true rfl) (()) (rfl) (trivial)
      · have k_3 : ¬ (3 ≤ j) := fun h9 => c_1 ((he_cle (a := 3) (b := j) (by decide) rfl (by omega) (by omega)).mpr h9)
        refine lv_iload_n hx hb dX1_menToFell_9 rfl (lv_at hl 1 rfl) ?_
        refine lv_iload_n hx hb dX1_menToFell_10 rfl (lv_at hl 3 rfl) ?_
        refine lv_ishr hx hb dX1_menToFell_11 ?_
        refine lv_iconst (v := 1) hx hb dX1_menToFell_12 (by decide) ?_
        refine lv_iand hx hb dX1_menToFell_13 ?_
        refine lv_iconst (v := 1) hx hb dX1_menToFell_14 (by decide) ?_
        refine lv_icmp_ne (tgt := 36) hx hb dX1_menToFell_15 (by decide) (fun c_4 => ?_) (fun c_4 => ?_)
        · refine lv_iinc (v := nI (j + 1)) (lv' := [(3, .int (nI (j + 1))), (0, .ref v0), (1, .int se), (2, .int ac)]) hx hb dX1_menToFell_36 hl (k := 3) rfl (nI_1 j) (by decide) rfl (fun ls hl => ?_)
          refine lv_goto (tgt := 4) hx hb dX1_menToFell_39 (by decide) ?_
          exact ih4 (j + 1) ac (by omega) (by omega) _ _ _ hP hD hS (lv_sub hl [1, 2, 3, 0] rfl)
        · refine lv_iload_n hx hb dX1_menToFell_18 rfl (lv_at hl 2 rfl) ?_
          refine lv_aload_n hx hb dX1_menToFell_19 rfl (lv_at hl 0 rfl) ?_
          refine va_get (v := .ref v3) (T := TX1) (N := 5) hx hb hts inX1 hown hK hP 0 rfl rfl 2 (by decide) f18 (fun _ h9 => h9) rfl dX1_menToFell_20 ?_
          refine lv_iload_n hx hb dX1_menToFell_23 rfl (lv_at hl 3 rfl) ?_
          refine he_iald hx hb hK hP 3 rfl (j) rfl (by first | assumption | decide | omega) (by first | decide | assumption) (pf j) rfl dX1_menToFell_24 ?_
          refine lv_aload_n hx hb dX1_menToFell_25 rfl (lv_at hl 0 rfl) ?_
          refine va_get (v := .ref v2) (T := TX1) (N := 5) hx hb hts inX1 hown hK hP 0 rfl rfl 1 (by decide) f15 (fun _ h9 => h9) rfl dX1_menToFell_26 ?_
          refine lv_iload_n hx hb dX1_menToFell_29 rfl (lv_at hl 3 rfl) ?_
          refine he_iald hx hb hK hP 2 rfl (j) rfl (by first | assumption | decide | omega) (by first | decide | assumption) (he_ j) rfl dX1_menToFell_30 ?_
          refine lv_iadd hx hb dX1_menToFell_31 ?_
          refine lv_iconst (v := 1) hx hb dX1_menToFell_32 (by decide) ?_
          refine lv_iadd hx hb dX1_menToFell_33 ?_
          refine lv_iadd hx hb dX1_menToFell_34 ?_
          refine lv_istore_n (lv' := [(2, .int (ac + (((pf j) + (he_ j)) + 1))), (0, .ref v0), (1, .int se), (3, .int (nI j))]) hx hb dX1_menToFell_35 rfl hl (by decide) rfl (fun ls hl => ?_)
          refine lv_iinc (v := nI (j + 1)) (lv' := [(3, .int (nI (j + 1))), (2, .int (ac + (((pf j) + (he_ j)) + 1))), (0, .ref v0), (1, .int se)]) hx hb dX1_menToFell_36 hl (k := 3) rfl (nI_1 j) (by decide) rfl (fun ls hl => ?_)
          refine lv_goto (tgt := 4) hx hb dX1_menToFell_39 (by decide) ?_
          exact ih4 (j + 1) (ac + (((pf j) + (he_ j)) + 1)) (by omega) (by omega) _ _ _ hP hD hS (lv_sub hl [2, 3, 1, 0] rfl)
  exact loop4 ((3 - 0) + 1) 0 0 (Nat.lt_succ_self _) (Nat.zero_le _) _ _ _ hP hD hS (lv_sub hl [2, 3, 1, 0] rfl)
set_option maxHeartbeats 4000000 in
set_option maxRecDepth 100000 in
theorem g_X1_menToHold (l : Launch) (g : he_G) (v0 : Nat) (v1 : Nat) (v2 : Nat) (v3 : Nat) (v : Nat) (dg : Int32) (wo : Nat → Int32) (he_ : Nat → Int32) (pf : Nat → Int32) (se : Int32) (hv3 : v ≤ 3) : he_I l yX1_menToHold wsX1_menToHold 1 14 0 0 g [.ref v0, .int se] [(oX1 v0 v1 v2 v3 (nI v) dg), (aI g v1 3 wo), (aI g v2 3 he_), (aI g v3 3 pf)] (fun (r : Int32) (u : Unit) => True) (fun (u : Unit) => [(oX1 v0 v1 v2 v3 (nI v) dg), (aI g v1 3 wo), (aI g v2 3 he_), (aI g v3 3 pf)]) := by
  refine he_begin (l := l) (g := g) (y := yX1_menToHold) (wl := wsX1_menToHold) (fr := 1) (lo := 14) (mc := 0) (ms := 0) (av := [.ref v0, .int se]) (ws := [(oX1 v0 v1 v2 v3 (nI v) dg), (aI g v1 3 wo), (aI g v2 3 he_), (aI g v3 3 pf)]) (cc := cX1_menToHold) (maxL := 4) (ret := (some .int)) (fun A => va_Qi (fun (r : Int32) (u : Unit) => True) (fun u t => he_post g A ((fun (u : Unit) => [(oX1 v0 v1 v2 v3 (nI v) dg), (aI g v1 3 wo), (aI g v2 3 he_), (aI g v3 3 pf)]) u) t) A) (by decide) rfl (Nat.le_of_ble_eq_true rfl) ?_
  intro p e s m args below meth c A ls H locs Q hQ hB
  obtain ⟨hx, hb, hr, hml, hown, hts, hlk, hin, hP, hK, hD, hS, hA, hE, hl⟩ := hB
  have hl : lv_has ls 4 [(0, .ref v0), (1, .int se)] := hl
  have f18 := hts (.fieldLink RX1 18 "HiredEnemy$Battle" "put" "[I") (iwoX1_menToHold (k := 0) rfl)
  have inX1 : ∀ w ∈ wsX10, w ∈ wsX1_menToHold := innX1_menToHold_X1
  have f15 := hts (.fieldLink RX1 15 "HiredEnemy$Battle" "held" "[I") (iwoX1_menToHold (k := 1) rfl)
  have ml51 := hts (.methodLink RX1 51 Lib.Math.max.name) (iwoX1_menToHold (k := 2) rfl)
  have msmax := hts (.static Lib.Math.max.name) (iwoX1_menToHold (k := 3) rfl)
  have mi := hts (.initialized "java/lang/Math") (iwoX1_menToHold (k := 4) rfl)
  have mcmax := hts (.code Lib.Math.max.name Lib.Math.max.code 2 (some .int)) (iwoX1_menToHold (k := 5) rfl)
  refine lv_iconst (v := 0) hx hb dX1_menToHold_0 (by decide) ?_
  refine lv_istore_n (lv' := [(2, .int 0), (0, .ref v0), (1, .int se)]) hx hb dX1_menToHold_1 rfl hl (by decide) rfl (fun ls hl => ?_)
  refine lv_iconst (v := 0) hx hb dX1_menToHold_2 (by decide) ?_
  refine lv_istore_n (lv' := [(3, .int 0), (2, .int 0), (0, .ref v0), (1, .int se)]) hx hb dX1_menToHold_3 rfl hl (by decide) rfl (fun ls hl => ?_)
  have loop4 : ∀ (n9 : Nat) (j : Nat) (ac : Int32), 3 - j < n9 → (j ≤ 3) → ∀ (H : Heap) (locs : List Loc) (ls : Array Slot), va_P g.1 vwCl [(oX1 v0 v1 v2 v3 (nI v) dg), (aI g v1 3 wo), (aI g v2 3 he_), (aI g v3 3 pf)] H → va_D A [(oX1 v0 v1 v2 v3 (nI v) dg), (aI g v1 3 wo), (aI g v2 3 he_), (aI g v3 3 pf)] → va_S A s.heap H locs → lv_has ls 4 [(0, .ref v0), (1, .int se), (2, .int ac), (3, .int (nI j))] → W p l e (he_room 1 14 0 0) s m args below meth c H locs 0 0 Q (F0 m 4 ls []) := by
    intro n9
    induction n9 with
    | zero => intro j ac hm9; exact absurd hm9 (Nat.not_lt_zero _)
    | succ n9 ih4 =>
      intro j ac hm9 hj H locs ls hP hD hS hl
      refine lv_iload_n hx hb dX1_menToHold_4 rfl (lv_at hl 3 rfl) ?_
      refine lv_iconst (v := 3) hx hb dX1_menToHold_5 (by decide) ?_
      refine lv_icmp_ge (tgt := 44) hx hb dX1_menToHold_6 (by decide) (fun c_1 => ?_) (fun c_1 => ?_)
      · have k_2 : 3 ≤ j := (he_cle (a := 3) (b := j) (by decide) rfl (by omega) (by omega)).mp c_1
        refine lv_iload_n hx hb dX1_menToHold_44 rfl (lv_at hl 2 rfl) ?_
        exact he_ri hQ hx hb hr hlk hP hD hS dX1_menToHold_45 (Nat.le_of_ble_eq_true rfl) (Nat.le_of_ble_eq_true rfl) (()) (rfl) (trivial)
      · have k_3 : ¬ (3 ≤ j) := fun h9 => c_1 ((he_cle (a := 3) (b := j) (by decide) rfl (by omega) (by omega)).mpr h9)
        refine lv_iload_n hx hb dX1_menToHold_9 rfl (lv_at hl 1 rfl) ?_
        refine lv_iload_n hx hb dX1_menToHold_10 rfl (lv_at hl 3 rfl) ?_
        refine lv_ishr hx hb dX1_menToHold_11 ?_
        refine lv_iconst (v := 1) hx hb dX1_menToHold_12 (by decide) ?_
        refine lv_iand hx hb dX1_menToHold_13 ?_
        refine lv_iconst (v := 1) hx hb dX1_menToHold_14 (by decide) ?_
        refine lv_icmp_ne (tgt := 38) hx hb dX1_menToHold_15 (by decide) (fun c_4 => ?_) (fun c_4 => ?_)
        · refine lv_iinc (v := nI (j + 1)) (lv' := [(3, .int (nI (j + 1))), (0, .ref v0), (1, .int se), (2, .int ac)]) hx hb dX1_menToHold_38 hl (k := 3) rfl (nI_1 j) (by decide) rfl (fun ls hl => ?_)
          refine lv_goto (tgt := 4) hx hb dX1_menToHold_41 (by decide) ?_
          exact ih4 (j + 1) ac (by omega) (by omega) _ _ _ hP hD hS (lv_sub hl [1, 2, 3, 0] rfl)
        · refine lv_iload_n hx hb dX1_menToHold_18 rfl (lv_at hl 2 rfl) ?_
          refine lv_iconst (v := 0) hx hb dX1_menToHold_19 (by decide) ?_
          refine lv_aload_n hx hb dX1_menToHold_20 rfl (lv_at hl 0 rfl) ?_
          refine va_get (v := .ref v3) (T := TX1) (N := 5) hx hb hts inX1 hown hK hP 0 rfl rfl 2 (by decide) f18 (fun _ h9 => h9) rfl dX1_menToHold_21 ?_
          refine lv_iload_n hx hb dX1_menToHold_24 rfl (lv_at hl 3 rfl) ?_
          refine he_iald hx hb hK hP 3 rfl (j) rfl (by first | assumption | decide | omega) (by first | decide | assumption) (pf j) rfl dX1_menToHold_25 ?_
          refine lv_aload_n hx hb dX1_menToHold_26 rfl (lv_at hl 0 rfl) ?_
          refine va_get (v := .ref v2) (T := TX1) (N := 5) hx hb hts inX1 hown hK hP 0 rfl rfl 1 (by decide) f15 (fun _ h9 => h9) rfl dX1_menToHold_27 ?_
          refine lv_iload_n hx hb dX1_menToHold_30 rfl (lv_at hl 3 rfl) ?_
          refine he_iald hx hb hK hP 2 rfl (j) rfl (by first | assumption | decide | omega) (by first | decide | assumption) (he_ j) rfl dX1_menToHold_31 ?_
          refine lv_isub hx hb dX1_menToHold_32 ?_
          refine va_mmax hx hb (by rw [hml]; exact hl.1.symm) hown ml51 msmax mi mcmax (by decide) (Nat.le_of_ble_eq_true rfl) (Nat.le_of_ble_eq_true rfl) (Nat.le_of_ble_eq_true rfl) dX1_menToHold_33 ?_
          refine lv_iadd hx hb dX1_menToHold_36 ?_
          refine lv_istore_n (lv' := [(2, .int (ac + (if 0 < ((pf j) - (he_ j)) then (pf j) - (he_ j) else 0))), (0, .ref v0), (1, .int se), (3, .int (nI j))]) hx hb dX1_menToHold_37 rfl hl (by decide) rfl (fun ls hl => ?_)
          refine lv_iinc (v := nI (j + 1)) (lv' := [(3, .int (nI (j + 1))), (2, .int (ac + (if 0 < ((pf j) - (he_ j)) then (pf j) - (he_ j) else 0))), (0, .ref v0), (1, .int se)]) hx hb dX1_menToHold_38 hl (k := 3) rfl (nI_1 j) (by decide) rfl (fun ls hl => ?_)
          refine lv_goto (tgt := 4) hx hb dX1_menToHold_41 (by decide) ?_
          exact ih4 (j + 1) (ac + (if 0 < ((pf j) - (he_ j)) then (pf j) - (he_ j) else 0)) (by omega) (by omega) _ _ _ hP hD hS (lv_sub hl [2, 3, 1, 0] rfl)
  exact loop4 ((3 - 0) + 1) 0 0 (Nat.lt_succ_self _) (Nat.zero_le _) _ _ _ hP hD hS (lv_sub hl [2, 3, 1, 0] rfl)
set_option maxHeartbeats 4000000 in
set_option maxRecDepth 100000 in
theorem g_X1_worthOf (l : Launch) (g : he_G) (v0 : Nat) (v1 : Nat) (v2 : Nat) (v3 : Nat) (v : Nat) (dg : Int32) (wo : Nat → Int32) (he_ : Nat → Int32) (pf : Nat → Int32) (se : Int32) (hv3 : v ≤ 3) : he_I l yX1_worthOf wsX1_worthOf 0 0 0 0 g [.ref v0, .int se] [(oX1 v0 v1 v2 v3 (nI v) dg), (aI g v1 3 wo), (aI g v2 3 he_), (aI g v3 3 pf)] (fun (r : Int32) (u : Unit) => True) (fun (u : Unit) => [(oX1 v0 v1 v2 v3 (nI v) dg), (aI g v1 3 wo), (aI g v2 3 he_), (aI g v3 3 pf)]) := by
  refine he_begin (l := l) (g := g) (y := yX1_worthOf) (wl := wsX1_worthOf) (fr := 0) (lo := 0) (mc := 0) (ms := 0) (av := [.ref v0, .int se]) (ws := [(oX1 v0 v1 v2 v3 (nI v) dg), (aI g v1 3 wo), (aI g v2 3 he_), (aI g v3 3 pf)]) (cc := cX1_worthOf) (maxL := 4) (ret := (some .int)) (fun A => va_Qi (fun (r : Int32) (u : Unit) => True) (fun u t => he_post g A ((fun (u : Unit) => [(oX1 v0 v1 v2 v3 (nI v) dg), (aI g v1 3 wo), (aI g v2 3 he_), (aI g v3 3 pf)]) u) t) A) (by decide) rfl (Nat.le_of_ble_eq_true rfl) ?_
  intro p e s m args below meth c A ls H locs Q hQ hB
  obtain ⟨hx, hb, hr, hml, hown, hts, hlk, hin, hP, hK, hD, hS, hA, hE, hl⟩ := hB
  have hl : lv_has ls 4 [(0, .ref v0), (1, .int se)] := hl
  have f11 := hts (.fieldLink RX1 11 "HiredEnemy$Battle" "worth" "[I") (iwoX1_worthOf (k := 0) rfl)
  have inX1 : ∀ w ∈ wsX10, w ∈ wsX1_worthOf := innX1_worthOf_X1
  refine lv_iconst (v := 0) hx hb dX1_worthOf_0 (by decide) ?_
  refine lv_istore_n (lv' := [(2, .int 0), (0, .ref v0), (1, .int se)]) hx hb dX1_worthOf_1 rfl hl (by decide) rfl (fun ls hl => ?_)
  refine lv_iconst (v := 0) hx hb dX1_worthOf_2 (by decide) ?_
  refine lv_istore_n (lv' := [(3, .int 0), (2, .int 0), (0, .ref v0), (1, .int se)]) hx hb dX1_worthOf_3 rfl hl (by decide) rfl (fun ls hl => ?_)
  have loop4 : ∀ (n9 : Nat) (j : Nat) (ac : Int32), 3 - j < n9 → (j ≤ 3) → ∀ (H : Heap) (locs : List Loc) (ls : Array Slot), va_P g.1 vwCl [(oX1 v0 v1 v2 v3 (nI v) dg), (aI g v1 3 wo), (aI g v2 3 he_), (aI g v3 3 pf)] H → va_D A [(oX1 v0 v1 v2 v3 (nI v) dg), (aI g v1 3 wo), (aI g v2 3 he_), (aI g v3 3 pf)] → va_S A s.heap H locs → lv_has ls 4 [(0, .ref v0), (1, .int se), (2, .int ac), (3, .int (nI j))] → W p l e (he_room 0 0 0 0) s m args below meth c H locs 0 0 Q (F0 m 4 ls []) := by
    intro n9
    induction n9 with
    | zero => intro j ac hm9; exact absurd hm9 (Nat.not_lt_zero _)
    | succ n9 ih4 =>
      intro j ac hm9 hj H locs ls hP hD hS hl
      refine lv_iload_n hx hb dX1_worthOf_4 rfl (lv_at hl 3 rfl) ?_
      refine lv_iconst (v := 3) hx hb dX1_worthOf_5 (by decide) ?_
      refine lv_icmp_ge (tgt := 33) hx hb dX1_worthOf_6 (by decide) (fun c_1 => ?_) (fun c_1 => ?_)
      · have k_2 : 3 ≤ j := (he_cle (a := 3) (b := j) (by decide) rfl (by omega) (by omega)).mp c_1
        refine lv_iload_n hx hb dX1_worthOf_33 rfl (lv_at hl 2 rfl) ?_
        exact he_ri hQ hx hb hr hlk hP hD hS dX1_worthOf_34 (Nat.le_of_ble_eq_true rfl) (Nat.le_of_ble_eq_true rfl) (()) (rfl) (trivial)
      · have k_3 : ¬ (3 ≤ j) := fun h9 => c_1 ((he_cle (a := 3) (b := j) (by decide) rfl (by omega) (by omega)).mpr h9)
        refine lv_iload_n hx hb dX1_worthOf_9 rfl (lv_at hl 1 rfl) ?_
        refine lv_iload_n hx hb dX1_worthOf_10 rfl (lv_at hl 3 rfl) ?_
        refine lv_ishr hx hb dX1_worthOf_11 ?_
        refine lv_iconst (v := 1) hx hb dX1_worthOf_12 (by decide) ?_
        refine lv_iand hx hb dX1_worthOf_13 ?_
        refine lv_iconst (v := 1) hx hb dX1_worthOf_14 (by decide) ?_
        refine lv_icmp_ne (tgt := 27) hx hb dX1_worthOf_15 (by decide) (fun c_4 => ?_) (fun c_4 => ?_)
        · refine lv_iinc (v := nI (j + 1)) (lv' := [(3, .int (nI (j + 1))), (0, .ref v0), (1, .int se), (2, .int ac)]) hx hb dX1_worthOf_27 hl (k := 3) rfl (nI_1 j) (by decide) rfl (fun ls hl => ?_)
          refine lv_goto (tgt := 4) hx hb dX1_worthOf_30 (by decide) ?_
          exact ih4 (j + 1) ac (by omega) (by omega) _ _ _ hP hD hS (lv_sub hl [1, 2, 3, 0] rfl)
        · refine lv_iload_n hx hb dX1_worthOf_18 rfl (lv_at hl 2 rfl) ?_
          refine lv_aload_n hx hb dX1_worthOf_19 rfl (lv_at hl 0 rfl) ?_
          refine va_get (v := .ref v1) (T := TX1) (N := 5) hx hb hts inX1 hown hK hP 0 rfl rfl 0 (by decide) f11 (fun _ h9 => h9) rfl dX1_worthOf_20 ?_
          refine lv_iload_n hx hb dX1_worthOf_23 rfl (lv_at hl 3 rfl) ?_
          refine he_iald hx hb hK hP 1 rfl (j) rfl (by first | assumption | decide | omega) (by first | decide | assumption) (wo j) rfl dX1_worthOf_24 ?_
          refine lv_iadd hx hb dX1_worthOf_25 ?_
          refine lv_istore_n (lv' := [(2, .int (ac + (wo j))), (0, .ref v0), (1, .int se), (3, .int (nI j))]) hx hb dX1_worthOf_26 rfl hl (by decide) rfl (fun ls hl => ?_)
          refine lv_iinc (v := nI (j + 1)) (lv' := [(3, .int (nI (j + 1))), (2, .int (ac + (wo j))), (0, .ref v0), (1, .int se)]) hx hb dX1_worthOf_27 hl (k := 3) rfl (nI_1 j) (by decide) rfl (fun ls hl => ?_)
          refine lv_goto (tgt := 4) hx hb dX1_worthOf_30 (by decide) ?_
          exact ih4 (j + 1) (ac + (wo j)) (by omega) (by omega) _ _ _ hP hD hS (lv_sub hl [2, 3, 1, 0] rfl)
  exact loop4 ((3 - 0) + 1) 0 0 (Nat.lt_succ_self _) (Nat.zero_le _) _ _ _ hP hD hS (lv_sub hl [2, 3, 1, 0] rfl)
set_option maxHeartbeats 4000000 in
set_option maxRecDepth 100000 in
theorem g_X1_mostFelled (l : Launch) (g : he_G) (v0 : Nat) (v1 : Nat) (v2 : Nat) (v3 : Nat) (v : Nat) (dg : Int32) (wo : Nat → Int32) (he_ : Nat → Int32) (pf : Nat → Int32) (am : Int32) (a : Int32) (hv3 : v ≤ 3) : he_I l yX1_mostFelled wsX1_mostFelled 1 23 0 0 g [.ref v0, .int am, .int a] [(oX1 v0 v1 v2 v3 (nI v) dg), (aI g v1 3 wo), (aI g v2 3 he_), (aI g v3 3 pf)] (fun (r : Int32) (u : Unit) => True) (fun (u : Unit) => [(oX1 v0 v1 v2 v3 (nI v) dg), (aI g v1 3 wo), (aI g v2 3 he_), (aI g v3 3 pf)]) := by
  refine he_begin (l := l) (g := g) (y := yX1_mostFelled) (wl := wsX1_mostFelled) (fr := 1) (lo := 23) (mc := 0) (ms := 0) (av := [.ref v0, .int am, .int a]) (ws := [(oX1 v0 v1 v2 v3 (nI v) dg), (aI g v1 3 wo), (aI g v2 3 he_), (aI g v3 3 pf)]) (cc := cX1_mostFelled) (maxL := 5) (ret := (some .int)) (fun A => va_Qi (fun (r : Int32) (u : Unit) => True) (fun u t => he_post g A ((fun (u : Unit) => [(oX1 v0 v1 v2 v3 (nI v) dg), (aI g v1 3 wo), (aI g v2 3 he_), (aI g v3 3 pf)]) u) t) A) (by decide) rfl (Nat.le_of_ble_eq_true rfl) ?_
  intro p e s m args below meth c A ls H locs Q hQ hB
  obtain ⟨hx, hb, hr, hml, hown, hts, hlk, hin, hP, hK, hD, hS, hA, hE, hl⟩ := hB
  have hl : lv_has ls 5 [(0, .ref v0), (1, .int am), (2, .int a)] := hl
  have ml51 := hts (.methodLink RX1 51 Lib.Math.max.name) (iwoX1_mostFelled (k := 0) rfl)
  have msmax := hts (.static Lib.Math.max.name) (iwoX1_mostFelled (k := 1) rfl)
  have mi := hts (.initialized "java/lang/Math") (iwoX1_mostFelled (k := 2) rfl)
  have mcmax := hts (.code Lib.Math.max.name Lib.Math.max.code 2 (some .int)) (iwoX1_mostFelled (k := 3) rfl)
  refine lv_iconst (v := 0) hx hb dX1_mostFelled_0 (by decide) ?_
  refine lv_istore_n (lv' := [(3, .int 0), (0, .ref v0), (1, .int am), (2, .int a)]) hx hb dX1_mostFelled_1 rfl hl (by decide) rfl (fun ls hl => ?_)
  refine lv_iconst (v := 0) hx hb dX1_mostFelled_2 (by decide) ?_
  refine lv_istore (lv' := [(4, .int 0), (3, .int 0), (0, .ref v0), (1, .int am), (2, .int a)]) hx hb dX1_mostFelled_3 hl (by decide) rfl (fun ls hl => ?_)
  have loop5 : ∀ (n9 : Nat) (j : Nat) (mx : Int32), 8 - j < n9 → (j ≤ 8) → ∀ (H : Heap) (locs : List Loc) (ls : Array Slot), va_P g.1 vwCl [(oX1 v0 v1 v2 v3 (nI v) dg), (aI g v1 3 wo), (aI g v2 3 he_), (aI g v3 3 pf)] H → va_D A [(oX1 v0 v1 v2 v3 (nI v) dg), (aI g v1 3 wo), (aI g v2 3 he_), (aI g v3 3 pf)] → va_S A s.heap H locs → lv_has ls 5 [(0, .ref v0), (1, .int am), (2, .int a), (3, .int mx), (4, .int (nI j))] → W p l e (he_room 1 23 0 0) s m args below meth c H locs 0 0 Q (F0 m 5 ls []) := by
    intro n9
    induction n9 with
    | zero => intro j mx hm9; exact absurd hm9 (Nat.not_lt_zero _)
    | succ n9 ih5 =>
      intro j mx hm9 hj H locs ls hP hD hS hl
      refine lv_iload hx hb dX1_mostFelled_5 (lv_at hl 4 rfl) ?_
      refine lv_bipush (v := 8) hx hb dX1_mostFelled_7 (by decide) ?_
      refine lv_icmp_ge (tgt := 48) hx hb dX1_mostFelled_9 (by decide) (fun c_1 => ?_) (fun c_1 => ?_)
      · have k_2 : 8 ≤ j := (he_cle (a := 8) (b := j) (by decide) rfl (by omega) (by omega)).mp c_1
        refine lv_iload_n hx hb dX1_mostFelled_48 rfl (lv_at hl 3 rfl) ?_
        exact he_ri hQ hx hb hr hlk hP hD hS dX1_mostFelled_49 (Nat.le_of_ble_eq_true rfl) (Nat.le_of_ble_eq_true rfl) (()) (rfl) (trivial)
      · have k_3 : ¬ (8 ≤ j) := fun h9 => c_1 ((he_cle (a := 8) (b := j) (by decide) rfl (by omega) (by omega)).mpr h9)
        refine lv_iload hx hb dX1_mostFelled_12 (lv_at hl 4 rfl) ?_
        refine lv_iload_n hx hb dX1_mostFelled_14 rfl (lv_at hl 1 rfl) ?_
        refine lv_iconst (v := (-1)) hx hb dX1_mostFelled_15 (by decide) ?_
        refine lv_ixor hx hb dX1_mostFelled_16 ?_
        refine lv_iand hx hb dX1_mostFelled_17 ?_
        refine lv_if_ne (tgt := 42) hx hb dX1_mostFelled_18 (by decide) (fun c_4 => ?_) (fun c_4 => ?_)
        · refine lv_iinc (v := nI (j + 1)) (lv' := [(4, .int (nI (j + 1))), (0, .ref v0), (1, .int am), (2, .int a), (3, .int mx)]) hx hb dX1_mostFelled_42 hl (k := 4) rfl (nI_1 j) (by decide) rfl (fun ls hl => ?_)
          refine lv_goto (tgt := 5) hx hb dX1_mostFelled_45 (by decide) ?_
          exact ih5 (j + 1) mx (by omega) (by omega) _ _ _ hP hD hS (lv_sub hl [1, 2, 3, 4, 0] rfl)
        · refine lv_aload_n hx hb dX1_mostFelled_21 rfl (lv_at hl 0 rfl) ?_
          refine lv_iload hx hb dX1_mostFelled_22 (lv_at hl 4 rfl) ?_
          refine he_ci (wc := [(oX1 v0 v1 v2 v3 (nI v) dg), (aI g v1 3 wo), (aI g v2 3 he_), (aI g v3 3 pf)]) (wr := []) (va_runV (As := [.int (nI j)]) (rest := []) ⟨hx, hb, hml, hown, hts⟩ (g_X1_menToFell l g v0 v1 v2 v3 v dg wo he_ pf (nI j) (by first | assumption | decide | omega) H.size) (cwV 1 hts gX1_mostFelled_X1_menToFell rfl rfl rfl (by decide +kernel) ⟨Nat.le_of_ble_eq_true rfl, Nat.le_of_ble_eq_true rfl⟩) (he_preV (wc := [(oX1 v0 v1 v2 v3 (nI v) dg), (aI g v1 3 wo), (aI g v2 3 he_), (aI g v3 3 pf)]) hK hP hD hS hA hE [0, 1, 2, 3] rfl rfl 0 rfl rfl) rfl rfl hl.1 rfl (lv_room (Nat.le_of_ble_eq_true rfl)) dX1_mostFelled_24 ⟨(Nat.le_of_ble_eq_true rfl), (Nat.le_of_ble_eq_true rfl)⟩) hP hD hS hA [0, 1, 2, 3] [] rfl rfl rfl (by decide) (fun r_5 u_6 H locs h_7 hP hD hS => ?_)
          have hP : va_P g.1 vwCl [(oX1 v0 v1 v2 v3 (nI v) dg), (aI g v1 3 wo), (aI g v2 3 he_), (aI g v3 3 pf)] H := hP
          have hD : va_D A [(oX1 v0 v1 v2 v3 (nI v) dg), (aI g v1 3 wo), (aI g v2 3 he_), (aI g v3 3 pf)] := hD
          refine lv_iload_n hx hb dX1_mostFelled_27 rfl (lv_at hl 2 rfl) ?_
          refine lv_icmp_gt (tgt := 42) hx hb dX1_mostFelled_28 (by decide) (fun c_8 => ?_) (fun c_8 => ?_)
          · refine lv_iinc (v := nI (j + 1)) (lv' := [(4, .int (nI (j + 1))), (0, .ref v0), (1, .int am), (2, .int a), (3, .int mx)]) hx hb dX1_mostFelled_42 hl (k := 4) rfl (nI_1 j) (by decide) rfl (fun ls hl => ?_)
            refine lv_goto (tgt := 5) hx hb dX1_mostFelled_45 (by decide) ?_
            exact ih5 (j + 1) mx (by omega) (by omega) _ _ _ hP hD hS (lv_sub hl [1, 2, 3, 4, 0] rfl)
          · refine lv_iload_n hx hb dX1_mostFelled_31 rfl (lv_at hl 3 rfl) ?_
            refine lv_aload_n hx hb dX1_mostFelled_32 rfl (lv_at hl 0 rfl) ?_
            refine lv_iload hx hb dX1_mostFelled_33 (lv_at hl 4 rfl) ?_
            refine he_ci (wc := [(oX1 v0 v1 v2 v3 (nI v) dg), (aI g v1 3 wo), (aI g v2 3 he_), (aI g v3 3 pf)]) (wr := []) (va_runV (As := [.int (nI j)]) (rest := [.int mx]) ⟨hx, hb, hml, hown, hts⟩ (g_X1_worthOf l g v0 v1 v2 v3 v dg wo he_ pf (nI j) (by first | assumption | decide | omega) H.size) (cwV 1 hts gX1_mostFelled_X1_worthOf rfl rfl rfl (by decide +kernel) ⟨Nat.le_of_ble_eq_true rfl, Nat.le_of_ble_eq_true rfl⟩) (he_preV (wc := [(oX1 v0 v1 v2 v3 (nI v) dg), (aI g v1 3 wo), (aI g v2 3 he_), (aI g v3 3 pf)]) hK hP hD hS hA hE [0, 1, 2, 3] rfl rfl 0 rfl rfl) rfl rfl hl.1 rfl (lv_room (Nat.le_of_ble_eq_true rfl)) dX1_mostFelled_35 ⟨(Nat.le_of_ble_eq_true rfl), (Nat.le_of_ble_eq_true rfl)⟩) hP hD hS hA [0, 1, 2, 3] [] rfl rfl rfl (by decide) (fun r_9 u_10 H locs h_11 hP hD hS => ?_)
            have hP : va_P g.1 vwCl [(oX1 v0 v1 v2 v3 (nI v) dg), (aI g v1 3 wo), (aI g v2 3 he_), (aI g v3 3 pf)] H := hP
            have hD : va_D A [(oX1 v0 v1 v2 v3 (nI v) dg), (aI g v1 3 wo), (aI g v2 3 he_), (aI g v3 3 pf)] := hD
            refine va_mmax hx hb (by rw [hml]; exact hl.1.symm) hown ml51 msmax mi mcmax (by decide) (Nat.le_of_ble_eq_true rfl) (Nat.le_of_ble_eq_true rfl) (Nat.le_of_ble_eq_true rfl) dX1_mostFelled_38 ?_
            refine lv_istore_n (lv' := [(3, .int (if mx < r_9 then r_9 else mx)), (0, .ref v0), (1, .int am), (2, .int a), (4, .int (nI j))]) hx hb dX1_mostFelled_41 rfl hl (by decide) rfl (fun ls hl => ?_)
            refine lv_iinc (v := nI (j + 1)) (lv' := [(4, .int (nI (j + 1))), (3, .int (if mx < r_9 then r_9 else mx)), (0, .ref v0), (1, .int am), (2, .int a)]) hx hb dX1_mostFelled_42 hl (k := 4) rfl (nI_1 j) (by decide) rfl (fun ls hl => ?_)
            refine lv_goto (tgt := 5) hx hb dX1_mostFelled_45 (by decide) ?_
            exact ih5 (j + 1) (if mx < r_9 then r_9 else mx) (by omega) (by omega) _ _ _ hP hD hS (lv_sub hl [2, 3, 4, 1, 0] rfl)
  exact loop5 ((8 - 0) + 1) 0 0 (Nat.lt_succ_self _) (Nat.zero_le _) _ _ _ hP hD hS (lv_sub hl [2, 3, 4, 1, 0] rfl)
set_option maxHeartbeats 4000000 in
set_option maxRecDepth 100000 in
theorem g_X1_leastFelled (l : Launch) (g : he_G) (v0 : Nat) (v1 : Nat) (v2 : Nat) (v3 : Nat) (v : Nat) (dg : Int32) (wo : Nat → Int32) (he_ : Nat → Int32) (pf : Nat → Int32) (a : Int32) (hv3 : v ≤ 3) : he_I l yX1_leastFelled wsX1_leastFelled 2 37 0 0 g [.ref v0, .int a] [(oX1 v0 v1 v2 v3 (nI v) dg), (aI g v1 3 wo), (aI g v2 3 he_), (aI g v3 3 pf)] (fun (r : Int32) (u : Unit) => True) (fun (u : Unit) => [(oX1 v0 v1 v2 v3 (nI v) dg), (aI g v1 3 wo), (aI g v2 3 he_), (aI g v3 3 pf)]) := by
  refine he_begin (l := l) (g := g) (y := yX1_leastFelled) (wl := wsX1_leastFelled) (fr := 2) (lo := 37) (mc := 0) (ms := 0) (av := [.ref v0, .int a]) (ws := [(oX1 v0 v1 v2 v3 (nI v) dg), (aI g v1 3 wo), (aI g v2 3 he_), (aI g v3 3 pf)]) (cc := cX1_leastFelled) (maxL := 4) (ret := (some .int)) (fun A => va_Qi (fun (r : Int32) (u : Unit) => True) (fun u t => he_post g A ((fun (u : Unit) => [(oX1 v0 v1 v2 v3 (nI v) dg), (aI g v1 3 wo), (aI g v2 3 he_), (aI g v3 3 pf)]) u) t) A) (by decide) rfl (Nat.le_of_ble_eq_true rfl) ?_
  intro p e s m args below meth c A ls H locs Q hQ hB
  obtain ⟨hx, hb, hr, hml, hown, hts, hlk, hin, hP, hK, hD, hS, hA, hE, hl⟩ := hB
  have hl : lv_has ls 4 [(0, .ref v0), (1, .int a)] := hl
  have ml51 := hts (.methodLink RX1 51 Lib.Math.max.name) (iwoX1_leastFelled (k := 0) rfl)
  have msmax := hts (.static Lib.Math.max.name) (iwoX1_leastFelled (k := 1) rfl)
  have mi := hts (.initialized "java/lang/Math") (iwoX1_leastFelled (k := 2) rfl)
  have mcmax := hts (.code Lib.Math.max.name Lib.Math.max.code 2 (some .int)) (by decide +kernel)
  refine lv_iconst (v := 0) hx hb dX1_leastFelled_0 (by decide) ?_
  refine lv_istore_n (lv' := [(2, .int 0), (0, .ref v0), (1, .int a)]) hx hb dX1_leastFelled_1 rfl hl (by decide) rfl (fun ls hl => ?_)
  refine lv_iconst (v := 0) hx hb dX1_leastFelled_2 (by decide) ?_
  refine lv_istore_n (lv' := [(3, .int 0), (2, .int 0), (0, .ref v0), (1, .int a)]) hx hb dX1_leastFelled_3 rfl hl (by decide) rfl (fun ls hl => ?_)
  have loop4 : ∀ (n9 : Nat) (j : Nat) (mx : Int32), 8 - j < n9 → (j ≤ 8) → ∀ (H : Heap) (locs : List Loc) (ls : Array Slot), va_P g.1 vwCl [(oX1 v0 v1 v2 v3 (nI v) dg), (aI g v1 3 wo), (aI g v2 3 he_), (aI g v3 3 pf)] H → va_D A [(oX1 v0 v1 v2 v3 (nI v) dg), (aI g v1 3 wo), (aI g v2 3 he_), (aI g v3 3 pf)] → va_S A s.heap H locs → lv_has ls 4 [(0, .ref v0), (1, .int a), (2, .int mx), (3, .int (nI j))] → W p l e (he_room 2 37 0 0) s m args below meth c H locs 0 0 Q (F0 m 4 ls []) := by
    intro n9
    induction n9 with
    | zero => intro j mx hm9; exact absurd hm9 (Nat.not_lt_zero _)
    | succ n9 ih4 =>
      intro j mx hm9 hj H locs ls hP hD hS hl
      refine lv_iload_n hx hb dX1_leastFelled_4 rfl (lv_at hl 3 rfl) ?_
      refine lv_aload_n hx hb dX1_leastFelled_5 rfl (lv_at hl 0 rfl) ?_
      refine he_ci (wc := [(oX1 v0 v1 v2 v3 (nI v) dg), (aI g v1 3 wo), (aI g v2 3 he_), (aI g v3 3 pf)]) (wr := []) (va_runV (As := []) (rest := [.int (nI j)]) ⟨hx, hb, hml, hown, hts⟩ (g_X1_all l g v0 v1 v2 v3 v dg wo he_ pf (by first | assumption | decide | omega) H.size) (cwV 0 hts gX1_leastFelled_X1_all rfl rfl rfl (by decide +kernel) ⟨Nat.le_of_ble_eq_true rfl, Nat.le_of_ble_eq_true rfl⟩) (he_preV (wc := [(oX1 v0 v1 v2 v3 (nI v) dg), (aI g v1 3 wo), (aI g v2 3 he_), (aI g v3 3 pf)]) hK hP hD hS hA hE [0, 1, 2, 3] rfl rfl 0 rfl rfl) rfl rfl hl.1 rfl (lv_room (Nat.le_of_ble_eq_true rfl)) dX1_leastFelled_6 ⟨(Nat.le_of_ble_eq_true rfl), (Nat.le_of_ble_eq_true rfl)⟩) hP hD hS hA [0, 1, 2, 3] [] rfl rfl rfl (by decide) (fun r_1 u_2 H locs h_3 hP hD hS => ?_)
      subst h_3
      have hP : va_P g.1 vwCl [(oX1 v0 v1 v2 v3 (nI v) dg), (aI g v1 3 wo), (aI g v2 3 he_), (aI g v3 3 pf)] H := hP
      have hD : va_D A [(oX1 v0 v1 v2 v3 (nI v) dg), (aI g v1 3 wo), (aI g v2 3 he_), (aI g v3 3 pf)] := hD
      refine lv_icmp_gt (tgt := 37) hx hb dX1_leastFelled_9 (by decide) (fun c_4 => ?_) (fun c_4 => ?_)
      · refine lv_aload_n hx hb dX1_leastFelled_37 rfl (lv_at hl 0 rfl) ?_
        refine lv_aload_n hx hb dX1_leastFelled_38 rfl (lv_at hl 0 rfl) ?_
        refine he_ci (wc := [(oX1 v0 v1 v2 v3 (nI v) dg), (aI g v1 3 wo), (aI g v2 3 he_), (aI g v3 3 pf)]) (wr := []) (va_runV (As := []) (rest := [.ref v0]) ⟨hx, hb, hml, hown, hts⟩ (g_X1_all l g v0 v1 v2 v3 v dg wo he_ pf (by first | assumption | decide | omega) H.size) (cwV 0 hts gX1_leastFelled_X1_all rfl rfl rfl (by decide +kernel) ⟨Nat.le_of_ble_eq_true rfl, Nat.le_of_ble_eq_true rfl⟩) (he_preV (wc := [(oX1 v0 v1 v2 v3 (nI v) dg), (aI g v1 3 wo), (aI g v2 3 he_), (aI g v3 3 pf)]) hK hP hD hS hA hE [0, 1, 2, 3] rfl rfl 0 rfl rfl) rfl rfl hl.1 rfl (lv_room (Nat.le_of_ble_eq_true rfl)) dX1_leastFelled_39 ⟨(Nat.le_of_ble_eq_true rfl), (Nat.le_of_ble_eq_true rfl)⟩) hP hD hS hA [0, 1, 2, 3] [] rfl rfl rfl (by decide) (fun r_5 u_6 H locs h_7 hP hD hS => ?_)
        subst h_7
        have hP : va_P g.1 vwCl [(oX1 v0 v1 v2 v3 (nI v) dg), (aI g v1 3 wo), (aI g v2 3 he_), (aI g v3 3 pf)] H := hP
        have hD : va_D A [(oX1 v0 v1 v2 v3 (nI v) dg), (aI g v1 3 wo), (aI g v2 3 he_), (aI g v3 3 pf)] := hD
        refine he_ci (wc := [(oX1 v0 v1 v2 v3 (nI v) dg), (aI g v1 3 wo), (aI g v2 3 he_), (aI g v3 3 pf)]) (wr := []) (va_runV (As := [.int (nI (allN v))]) (rest := []) ⟨hx, hb, hml, hown, hts⟩ (g_X1_worthOf l g v0 v1 v2 v3 v dg wo he_ pf (nI (allN v)) (by first | assumption | decide | omega) H.size) (cwV 1 hts gX1_leastFelled_X1_worthOf rfl rfl rfl (by decide +kernel) ⟨Nat.le_of_ble_eq_true rfl, Nat.le_of_ble_eq_true rfl⟩) (he_preV (wc := [(oX1 v0 v1 v2 v3 (nI v) dg), (aI g v1 3 wo), (aI g v2 3 he_), (aI g v3 3 pf)]) hK hP hD hS hA hE [0, 1, 2, 3] rfl rfl 0 rfl rfl) rfl rfl hl.1 rfl (lv_room (Nat.le_of_ble_eq_true rfl)) dX1_leastFelled_42 ⟨(Nat.le_of_ble_eq_true rfl), (Nat.le_of_ble_eq_true rfl)⟩) hP hD hS hA [0, 1, 2, 3] [] rfl rfl rfl (by decide) (fun r_8 u_9 H locs h_10 hP hD hS => ?_)
        have hP : va_P g.1 vwCl [(oX1 v0 v1 v2 v3 (nI v) dg), (aI g v1 3 wo), (aI g v2 3 he_), (aI g v3 3 pf)] H := hP
        have hD : va_D A [(oX1 v0 v1 v2 v3 (nI v) dg), (aI g v1 3 wo), (aI g v2 3 he_), (aI g v3 3 pf)] := hD
        refine lv_iload_n hx hb dX1_leastFelled_45 rfl (lv_at hl 2 rfl) ?_
        refine lv_isub hx hb dX1_leastFelled_46 ?_
        exact he_ri hQ hx hb hr hlk hP hD hS dX1_leastFelled_47 (Nat.le_of_ble_eq_true rfl) (Nat.le_of_ble_eq_true rfl) (()) (rfl) (trivial)
      · have hk9 : j ≤ allN v := (he_cle (a := j) (b := allN v) rfl rfl (by have := all_7 hv3; omega) (by have := all_7 hv3; omega)).mp (Int32.not_lt.mp c_4)
        refine lv_aload_n hx hb dX1_leastFelled_12 rfl (lv_at hl 0 rfl) ?_
        refine lv_iload_n hx hb dX1_leastFelled_13 rfl (lv_at hl 3 rfl) ?_
        refine he_ci (wc := [(oX1 v0 v1 v2 v3 (nI v) dg), (aI g v1 3 wo), (aI g v2 3 he_), (aI g v3 3 pf)]) (wr := []) (va_runV (As := [.int (nI j)]) (rest := []) ⟨hx, hb, hml, hown, hts⟩ (g_X1_menToHold l g v0 v1 v2 v3 v dg wo he_ pf (nI j) (by first | assumption | decide | omega) H.size) (cwV 1 hts gX1_leastFelled_X1_menToHold rfl rfl rfl (by decide +kernel) ⟨Nat.le_of_ble_eq_true rfl, Nat.le_of_ble_eq_true rfl⟩) (he_preV (wc := [(oX1 v0 v1 v2 v3 (nI v) dg), (aI g v1 3 wo), (aI g v2 3 he_), (aI g v3 3 pf)]) hK hP hD hS hA hE [0, 1, 2, 3] rfl rfl 0 rfl rfl) rfl rfl hl.1 rfl (lv_room (Nat.le_of_ble_eq_true rfl)) dX1_leastFelled_14 ⟨(Nat.le_of_ble_eq_true rfl), (Nat.le_of_ble_eq_true rfl)⟩) hP hD hS hA [0, 1, 2, 3] [] rfl rfl rfl (by decide) (fun r_11 u_12 H locs h_13 hP hD hS => ?_)
        have hP : va_P g.1 vwCl [(oX1 v0 v1 v2 v3 (nI v) dg), (aI g v1 3 wo), (aI g v2 3 he_), (aI g v3 3 pf)] H := hP
        have hD : va_D A [(oX1 v0 v1 v2 v3 (nI v) dg), (aI g v1 3 wo), (aI g v2 3 he_), (aI g v3 3 pf)] := hD
        refine lv_iload_n hx hb dX1_leastFelled_17 rfl (lv_at hl 1 rfl) ?_
        refine lv_icmp_gt (tgt := 31) hx hb dX1_leastFelled_18 (by decide) (fun c_14 => ?_) (fun c_14 => ?_)
        · refine lv_iinc (v := nI (j + 1)) (lv' := [(3, .int (nI (j + 1))), (0, .ref v0), (1, .int a), (2, .int mx)]) hx hb dX1_leastFelled_31 hl (k := 3) rfl (nI_1 j) (by decide) rfl (fun ls hl => ?_)
          refine lv_goto (tgt := 4) hx hb dX1_leastFelled_34 (by decide) ?_
          exact ih4 (j + 1) mx (by have := all_7 hv3; omega) (by have := all_7 hv3; omega) _ _ _ hP hD hS (lv_sub hl [1, 2, 3, 0] rfl)
        · refine lv_iload_n hx hb dX1_leastFelled_21 rfl (lv_at hl 2 rfl) ?_
          refine lv_aload_n hx hb dX1_leastFelled_22 rfl (lv_at hl 0 rfl) ?_
          refine lv_iload_n hx hb dX1_leastFelled_23 rfl (lv_at hl 3 rfl) ?_
          refine he_ci (wc := [(oX1 v0 v1 v2 v3 (nI v) dg), (aI g v1 3 wo), (aI g v2 3 he_), (aI g v3 3 pf)]) (wr := []) (va_runV (As := [.int (nI j)]) (rest := [.int mx]) ⟨hx, hb, hml, hown, hts⟩ (g_X1_worthOf l g v0 v1 v2 v3 v dg wo he_ pf (nI j) (by first | assumption | decide | omega) H.size) (cwV 1 hts gX1_leastFelled_X1_worthOf rfl rfl rfl (by decide +kernel) ⟨Nat.le_of_ble_eq_true rfl, Nat.le_of_ble_eq_true rfl⟩) (he_preV (wc := [(oX1 v0 v1 v2 v3 (nI v) dg), (aI g v1 3 wo), (aI g v2 3 he_), (aI g v3 3 pf)]) hK hP hD hS hA hE [0, 1, 2, 3] rfl rfl 0 rfl rfl) rfl rfl hl.1 rfl (lv_room (Nat.le_of_ble_eq_true rfl)) dX1_leastFelled_24 ⟨(Nat.le_of_ble_eq_true rfl), (Nat.le_of_ble_eq_true rfl)⟩) hP hD hS hA [0, 1, 2, 3] [] rfl rfl rfl (by decide) (fun r_15 u_16 H locs h_17 hP hD hS => ?_)
          have hP : va_P g.1 vwCl [(oX1 v0 v1 v2 v3 (nI v) dg), (aI g v1 3 wo), (aI g v2 3 he_), (aI g v3 3 pf)] H := hP
          have hD : va_D A [(oX1 v0 v1 v2 v3 (nI v) dg), (aI g v1 3 wo), (aI g v2 3 he_), (aI g v3 3 pf)] := hD
          refine va_mmax hx hb (by rw [hml]; exact hl.1.symm) hown ml51 msmax mi mcmax (by decide) (Nat.le_of_ble_eq_true rfl) (Nat.le_of_ble_eq_true rfl) (Nat.le_of_ble_eq_true rfl) dX1_leastFelled_27 ?_
          refine lv_istore_n (lv' := [(2, .int (if mx < r_15 then r_15 else mx)), (0, .ref v0), (1, .int a), (3, .int (nI j))]) hx hb dX1_leastFelled_30 rfl hl (by decide) rfl (fun ls hl => ?_)
          refine lv_iinc (v := nI (j + 1)) (lv' := [(3, .int (nI (j + 1))), (2, .int (if mx < r_15 then r_15 else mx)), (0, .ref v0), (1, .int a)]) hx hb dX1_leastFelled_31 hl (k := 3) rfl (nI_1 j) (by decide) rfl (fun ls hl => ?_)
          refine lv_goto (tgt := 4) hx hb dX1_leastFelled_34 (by decide) ?_
          exact ih4 (j + 1) (if mx < r_15 then r_15 else mx) (by have := all_7 hv3; omega) (by have := all_7 hv3; omega) _ _ _ hP hD hS (lv_sub hl [2, 3, 1, 0] rfl)
  exact loop4 ((8 - 0) + 1) 0 0 (Nat.lt_succ_self _) (Nat.zero_le _) _ _ _ hP hD hS (lv_sub hl [2, 3, 1, 0] rfl)
set_option maxHeartbeats 4000000 in
set_option maxRecDepth 100000 in
theorem g_X1_safe (l : Launch) (g : he_G) (v0 : Nat) (v1 : Nat) (v2 : Nat) (v3 : Nat) (v : Nat) (dg : Int32) (wo : Nat → Int32) (he_ : Nat → Int32) (pf : Nat → Int32) (am : Int32) (a : Int32) (d : Nat) (hv3 : v ≤ 3) (hd6 : d ≤ 6) : he_I l yX1_safe wsX1_safe 2 47 0 0 g [.ref v0, .int am, .int a, .int (nI d)] [(oX1 v0 v1 v2 v3 (nI v) dg), (aI g v1 3 wo), (aI g v2 3 he_), (aI g v3 3 pf)] (fun (r : Int32) (u : Int32 × (Nat → Int32)) => True) (fun (u : Int32 × (Nat → Int32)) => [(oX1 v0 v1 v2 v3 (nI v) u.1), (aI g v1 3 wo), (aI g v2 3 he_), (aI g v3 3 u.2)]) := by
  refine he_begin (l := l) (g := g) (y := yX1_safe) (wl := wsX1_safe) (fr := 2) (lo := 47) (mc := 0) (ms := 0) (av := [.ref v0, .int am, .int a, .int (nI d)]) (ws := [(oX1 v0 v1 v2 v3 (nI v) dg), (aI g v1 3 wo), (aI g v2 3 he_), (aI g v3 3 pf)]) (cc := cX1_safe) (maxL := 8) (ret := (some .int)) (fun A => va_Qi (fun (r : Int32) (u : Int32 × (Nat → Int32)) => True) (fun u t => he_post g A ((fun (u : Int32 × (Nat → Int32)) => [(oX1 v0 v1 v2 v3 (nI v) u.1), (aI g v1 3 wo), (aI g v2 3 he_), (aI g v3 3 u.2)]) u) t) A) (by decide) rfl (Nat.le_of_ble_eq_true rfl) ?_
  intro p e s m args below meth c A ls H locs Q hQ hB
  obtain ⟨hx, hb, hr, hml, hown, hts, hlk, hin, hP, hK, hD, hS, hA, hE, hl⟩ := hB
  have hl : lv_has ls 8 [(0, .ref v0), (1, .int am), (2, .int a), (3, .int (nI d))] := hl
  have f37 := hts (.fieldLink RX1 37 "HiredEnemy$Battle" "safeDigits" "I") (iwoX1_safe (k := 0) rfl)
  have inX1 : ∀ w ∈ wsX10, w ∈ wsX1_safe := innX1_safe_X1
  have ml51 := hts (.methodLink RX1 51 Lib.Math.max.name) (iwoX1_safe (k := 1) rfl)
  have msmax := hts (.static Lib.Math.max.name) (iwoX1_safe (k := 2) rfl)
  have mi := hts (.initialized "java/lang/Math") (iwoX1_safe (k := 3) rfl)
  have mcmax := hts (.code Lib.Math.max.name Lib.Math.max.code 2 (some .int)) (by decide +kernel)
  refine lv_iconst (v := (-1)) hx hb dX1_safe_0 (by decide) ?_
  refine lv_istore (lv' := [(4, .int (-1)), (0, .ref v0), (1, .int am), (2, .int a), (3, .int (nI d))]) hx hb dX1_safe_1 hl (by decide) rfl (fun ls hl => ?_)
  refine lv_aload_n hx hb dX1_safe_3 rfl (lv_at hl 1 rfl) ?_
  refine lv_iconst (v := 0) hx hb dX1_safe_4 (by decide) ?_
  refine va_put (v := .int 0) (ty := .int) (T := TX1) (N := 5) hx hb hts inX1 tyX1 tyX1_ok nmX1 hown hK hP hD hS 0 rfl rfl 4 (by decide) f37 (fun _ h9 => h9) rfl (by decide +kernel) rfl rfl (Nat.le_of_ble_eq_true rfl) dX1_safe_5 (fun H locs hP hD hS => ?_)
  have hP : va_P g.1 vwCl [(oX1 v0 v1 v2 v3 (nI v) 0), (aI g v1 3 wo), (aI g v2 3 he_), (aI g v3 3 pf)] H := hP
  have hD : va_D A [(oX1 v0 v1 v2 v3 (nI v) 0), (aI g v1 3 wo), (aI g v2 3 he_), (aI g v3 3 pf)] := hD
  refine lv_iconst (v := 0) hx hb dX1_safe_8 (by decide) ?_
  refine lv_istore (lv' := [(5, .int 0), (4, .int (-1)), (0, .ref v0), (1, .int am), (2, .int a), (3, .int (nI d))]) hx hb dX1_safe_9 hl (by decide) rfl (fun ls hl => ?_)
  have loop11 : ∀ (n9 : Nat) (x : Nat) (le : Int32) (dd : Int32) (pu : Nat → Int32), d + 1 - x < n9 → (x ≤ d + 1) → ∀ (H : Heap) (locs : List Loc) (ls : Array Slot), va_P g.1 vwCl [(oX1 v0 v1 v2 v3 (nI v) dd), (aI g v1 3 wo), (aI g v2 3 he_), (aI g v3 3 pu)] H → va_D A [(oX1 v0 v1 v2 v3 (nI v) dd), (aI g v1 3 wo), (aI g v2 3 he_), (aI g v3 3 pu)] → va_S A s.heap H locs → lv_has ls 8 [(0, .ref v0), (1, .int am), (2, .int a), (3, .int (nI d)), (4, .int le), (5, .int (nI x))] → W p l e (he_room 2 47 0 0) s m args below meth c H locs 0 0 Q (F0 m 11 ls []) := by
    intro n9
    induction n9 with
    | zero => intro x le dd pu hm9; exact absurd hm9 (Nat.not_lt_zero _)
    | succ n9 ih11 =>
      intro x le dd pu hm9 hx6 H locs ls hP hD hS hl
      refine lv_iload hx hb dX1_safe_11 (lv_at hl 5 rfl) ?_
      refine lv_iload_n hx hb dX1_safe_13 rfl (lv_at hl 3 rfl) ?_
      refine lv_icmp_gt (tgt := 96) hx hb dX1_safe_14 (by decide) (fun c_1 => ?_) (fun c_1 => ?_)
      · have k_2 : d < x := (he_clt (a := d) (b := x) rfl rfl (by omega) (by omega)).mp c_1
        refine lv_iload hx hb dX1_safe_96 (lv_at hl 4 rfl) ?_
        refine lv_iconst (v := 0) hx hb dX1_safe_98 (by decide) ?_
        refine va_mmax hx hb (by rw [hml]; exact hl.1.symm) hown ml51 msmax mi mcmax (by decide) (Nat.le_of_ble_eq_true rfl) (Nat.le_of_ble_eq_true rfl) (Nat.le_of_ble_eq_true rfl) dX1_safe_99 ?_
        exact he_ri hQ hx hb hr hlk hP hD hS dX1_safe_102 (Nat.le_of_ble_eq_true rfl) (Nat.le_of_ble_eq_true rfl) ((dd, pu)) (rfl) (trivial)
      · have k_3 : ¬ (d < x) := fun h9 => c_1 ((he_clt (a := d) (b := x) rfl rfl (by omega) (by omega)).mpr h9)
        refine lv_iconst (v := 0) hx hb dX1_safe_17 (by decide) ?_
        refine lv_istore (lv' := [(6, .int 0), (0, .ref v0), (1, .int am), (2, .int a), (3, .int (nI d)), (4, .int le), (5, .int (nI x))]) hx hb dX1_safe_18 hl (by decide) rfl (fun ls hl => ?_)
        have loop20 : ∀ (n9 : Nat) (y : Nat) (le : Int32) (dd : Int32) (pu : Nat → Int32), d - x + 1 - y < n9 → (y ≤ d - x + 1) → ∀ (H : Heap) (locs : List Loc) (ls : Array Slot), va_P g.1 vwCl [(oX1 v0 v1 v2 v3 (nI v) dd), (aI g v1 3 wo), (aI g v2 3 he_), (aI g v3 3 pu)] H → va_D A [(oX1 v0 v1 v2 v3 (nI v) dd), (aI g v1 3 wo), (aI g v2 3 he_), (aI g v3 3 pu)] → va_S A s.heap H locs → lv_has ls 8 [(0, .ref v0), (1, .int am), (2, .int a), (3, .int (nI d)), (4, .int le), (5, .int (nI x)), (6, .int (nI y))] → W p l e (he_room 2 47 0 0) s m args below meth c H locs 0 0 Q (F0 m 20 ls []) := by
          intro n9
          induction n9 with
          | zero => intro y le dd pu hm9; exact absurd hm9 (Nat.not_lt_zero _)
          | succ n9 ih20 =>
            intro y le dd pu hm9 hy6 H locs ls hP hD hS hl
            refine lv_iload hx hb dX1_safe_20 (lv_at hl 6 rfl) ?_
            refine lv_iload_n hx hb dX1_safe_22 rfl (lv_at hl 3 rfl) ?_
            refine lv_iload hx hb dX1_safe_23 (lv_at hl 5 rfl) ?_
            refine lv_isub hx hb dX1_safe_25 ?_
            refine he_top (nI (d - x)) (pk_sub (by omega)) ?_
            refine lv_icmp_gt (tgt := 90) hx hb dX1_safe_26 (by decide) (fun c_4 => ?_) (fun c_4 => ?_)
            · have k_5 : d - x < y := (he_clt (a := d - x) (b := y) rfl rfl (by omega) (by omega)).mp c_4
              refine lv_iinc (v := nI (x + 1)) (lv' := [(5, .int (nI (x + 1))), (0, .ref v0), (1, .int am), (2, .int a), (3, .int (nI d)), (4, .int le), (6, .int (nI y))]) hx hb dX1_safe_90 hl (k := 5) rfl (nI_1 x) (by decide) rfl (fun ls hl => ?_)
              refine lv_goto (tgt := 11) hx hb dX1_safe_93 (by decide) ?_
              exact ih11 (x + 1) le dd pu (by omega) (by omega) _ _ _ hP hD hS (lv_sub hl [1, 2, 3, 4, 5, 0] rfl)
            · have k_6 : ¬ (d - x < y) := fun h9 => c_4 ((he_clt (a := d - x) (b := y) rfl rfl (by omega) (by omega)).mpr h9)
              refine lv_aload_n hx hb dX1_safe_29 rfl (lv_at hl 0 rfl) ?_
              refine lv_iload_n hx hb dX1_safe_30 rfl (lv_at hl 1 rfl) ?_
              refine lv_iload hx hb dX1_safe_31 (lv_at hl 5 rfl) ?_
              refine lv_iload hx hb dX1_safe_33 (lv_at hl 6 rfl) ?_
              refine lv_iload_n hx hb dX1_safe_35 rfl (lv_at hl 3 rfl) ?_
              refine lv_iload hx hb dX1_safe_36 (lv_at hl 5 rfl) ?_
              refine lv_isub hx hb dX1_safe_38 ?_
              refine he_top (nI (d - x)) (pk_sub (by omega)) ?_
              refine lv_iload hx hb dX1_safe_39 (lv_at hl 6 rfl) ?_
              refine lv_isub hx hb dX1_safe_41 ?_
              refine he_top (nI (d - x - y)) (pk_sub (by omega)) ?_
              refine he_ci (wc := [(oX1 v0 v1 v2 v3 (nI v) dd), (aI g v1 3 wo), (aI g v2 3 he_), (aI g v3 3 pu)]) (wr := []) (va_runV (As := [.int am, .int (nI x), .int (nI y), .int (nI (d - x - y))]) (rest := []) ⟨hx, hb, hml, hown, hts⟩ (g_X1_place l g v0 v1 v2 v3 v dd wo he_ pu am (nI x) (nI y) (nI (d - x - y)) H.size) (cwV 4 hts gX1_safe_X1_place rfl rfl rfl (by decide +kernel) ⟨Nat.le_of_ble_eq_true rfl, Nat.le_of_ble_eq_true rfl⟩) (he_preV (wc := [(oX1 v0 v1 v2 v3 (nI v) dd), (aI g v1 3 wo), (aI g v2 3 he_), (aI g v3 3 pu)]) hK hP hD hS hA hE [0, 1, 2, 3] rfl rfl 0 rfl rfl) rfl rfl hl.1 rfl (lv_room (Nat.le_of_ble_eq_true rfl)) dX1_safe_42 ⟨(Nat.le_of_ble_eq_true rfl), (Nat.le_of_ble_eq_true rfl)⟩) hP hD hS hA [0, 1, 2, 3] [] rfl rfl rfl (by decide) (fun r_7 u_8 H locs h_9 hP hD hS => ?_)
              obtain ⟨uf_10, rfl⟩ : ∃ z, z = u_8 := ⟨_, rfl⟩
              try dsimp only at h_9
              have hf_11 := h_9
              have hP : va_P g.1 vwCl [(oX1 v0 v1 v2 v3 (nI v) dd), (aI g v1 3 wo), (aI g v2 3 he_), (aI g v3 3 uf_10)] H := hP
              have hD : va_D A [(oX1 v0 v1 v2 v3 (nI v) dd), (aI g v1 3 wo), (aI g v2 3 he_), (aI g v3 3 uf_10)] := hD
              refine lv_if_ne (tgt := 51) hx hb dX1_safe_45 (by decide) (fun c_12 => ?_) (fun c_12 => ?_)
              · refine lv_aload_n hx hb dX1_safe_51 rfl (lv_at hl 0 rfl) ?_
                refine lv_iload_n hx hb dX1_safe_52 rfl (lv_at hl 1 rfl) ?_
                refine lv_iload_n hx hb dX1_safe_53 rfl (lv_at hl 2 rfl) ?_
                refine he_ci (wc := [(oX1 v0 v1 v2 v3 (nI v) dd), (aI g v1 3 wo), (aI g v2 3 he_), (aI g v3 3 uf_10)]) (wr := []) (va_runV (As := [.int am, .int a]) (rest := []) ⟨hx, hb, hml, hown, hts⟩ (g_X1_mostFelled l g v0 v1 v2 v3 v dd wo he_ uf_10 am a (by first | assumption | decide | omega) H.size) (cwV 2 hts gX1_safe_X1_mostFelled rfl rfl rfl (by decide +kernel) ⟨Nat.le_of_ble_eq_true rfl, Nat.le_of_ble_eq_true rfl⟩) (he_preV (wc := [(oX1 v0 v1 v2 v3 (nI v) dd), (aI g v1 3 wo), (aI g v2 3 he_), (aI g v3 3 uf_10)]) hK hP hD hS hA hE [0, 1, 2, 3] rfl rfl 0 rfl rfl) rfl rfl hl.1 rfl (lv_room (Nat.le_of_ble_eq_true rfl)) dX1_safe_54 ⟨(Nat.le_of_ble_eq_true rfl), (Nat.le_of_ble_eq_true rfl)⟩) hP hD hS hA [0, 1, 2, 3] [] rfl rfl rfl (by decide) (fun r_13 u_14 H locs h_15 hP hD hS => ?_)
                have hP : va_P g.1 vwCl [(oX1 v0 v1 v2 v3 (nI v) dd), (aI g v1 3 wo), (aI g v2 3 he_), (aI g v3 3 uf_10)] H := hP
                have hD : va_D A [(oX1 v0 v1 v2 v3 (nI v) dd), (aI g v1 3 wo), (aI g v2 3 he_), (aI g v3 3 uf_10)] := hD
                refine lv_istore (lv' := [(7, .int r_13), (0, .ref v0), (1, .int am), (2, .int a), (3, .int (nI d)), (4, .int le), (5, .int (nI x)), (6, .int (nI y))]) hx hb dX1_safe_57 hl (by decide) rfl (fun ls hl => ?_)
                have join72 : ∀ (_ : Unit), ∀ (H : Heap) (locs : List Loc) (ls : Array Slot), va_P g.1 vwCl [(oX1 v0 v1 v2 v3 (nI v) dd), (aI g v1 3 wo), (aI g v2 3 he_), (aI g v3 3 uf_10)] H → va_D A [(oX1 v0 v1 v2 v3 (nI v) dd), (aI g v1 3 wo), (aI g v2 3 he_), (aI g v3 3 uf_10)] → va_S A s.heap H locs → lv_has ls 8 [(7, .int r_13), (0, .ref v0), (1, .int am), (2, .int a), (3, .int (nI d)), (4, .int le), (5, .int (nI x)), (6, .int (nI y))] → W p l e (he_room 2 47 0 0) s m args below meth c H locs 0 0 Q (F0 m 72 ls []) := by
                  intro _ H locs ls hP hD hS hl
                  refine lv_iload hx hb dX1_safe_72 (lv_at hl 0 rfl) ?_
                  refine lv_istore (lv' := [(4, .int r_13), (7, .int r_13), (0, .ref v0), (1, .int am), (2, .int a), (3, .int (nI d)), (5, .int (nI x)), (6, .int (nI y))]) hx hb dX1_safe_74 hl (by decide) rfl (fun ls hl => ?_)
                  refine lv_aload_n hx hb dX1_safe_76 rfl (lv_at hl 2 rfl) ?_
                  refine lv_aload_n hx hb dX1_safe_77 rfl (lv_at hl 2 rfl) ?_
                  refine he_ci (wc := [(oX1 v0 v1 v2 v3 (nI v) dd), (aI g v1 3 wo), (aI g v2 3 he_), (aI g v3 3 uf_10)]) (wr := []) (va_runV (As := []) (rest := [.ref v0]) ⟨hx, hb, hml, hown, hts⟩ (g_X1_digits l g v0 v1 v2 v3 v dd wo he_ uf_10 (by first | assumption | decide | omega) H.size) (cwV 0 hts gX1_safe_X1_digits rfl rfl rfl (by decide +kernel) ⟨Nat.le_of_ble_eq_true rfl, Nat.le_of_ble_eq_true rfl⟩) (he_preV (wc := [(oX1 v0 v1 v2 v3 (nI v) dd), (aI g v1 3 wo), (aI g v2 3 he_), (aI g v3 3 uf_10)]) hK hP hD hS hA hE [0, 1, 2, 3] rfl rfl 0 rfl rfl) rfl rfl hl.1 rfl (lv_room (Nat.le_of_ble_eq_true rfl)) dX1_safe_78 ⟨(Nat.le_of_ble_eq_true rfl), (Nat.le_of_ble_eq_true rfl)⟩) hP hD hS hA [0, 1, 2, 3] [] rfl rfl rfl (by decide) (fun r_16 u_17 H locs h_18 hP hD hS => ?_)
                  have hP : va_P g.1 vwCl [(oX1 v0 v1 v2 v3 (nI v) dd), (aI g v1 3 wo), (aI g v2 3 he_), (aI g v3 3 uf_10)] H := hP
                  have hD : va_D A [(oX1 v0 v1 v2 v3 (nI v) dd), (aI g v1 3 wo), (aI g v2 3 he_), (aI g v3 3 uf_10)] := hD
                  refine va_put (v := .int r_16) (ty := .int) (T := TX1) (N := 5) hx hb hts inX1 tyX1 tyX1_ok nmX1 hown hK hP hD hS 0 rfl rfl 4 (by decide) f37 (fun _ h9 => h9) rfl (by decide +kernel) rfl rfl (Nat.le_of_ble_eq_true rfl) dX1_safe_81 (fun H locs hP hD hS => ?_)
                  have hP : va_P g.1 vwCl [(oX1 v0 v1 v2 v3 (nI v) r_16), (aI g v1 3 wo), (aI g v2 3 he_), (aI g v3 3 uf_10)] H := hP
                  have hD : va_D A [(oX1 v0 v1 v2 v3 (nI v) r_16), (aI g v1 3 wo), (aI g v2 3 he_), (aI g v3 3 uf_10)] := hD
                  refine lv_iinc (v := nI (y + 1)) (lv' := [(6, .int (nI (y + 1))), (4, .int r_13), (7, .int r_13), (0, .ref v0), (1, .int am), (2, .int a), (3, .int (nI d)), (5, .int (nI x))]) hx hb dX1_safe_84 hl (k := 7) rfl (nI_1 y) (by decide) rfl (fun ls hl => ?_)
                  refine lv_goto (tgt := 20) hx hb dX1_safe_87 (by decide) ?_
                  exact ih20 (y + 1) r_13 r_16 uf_10 (by omega) (by omega) _ _ _ hP hD hS (lv_sub hl [3, 4, 5, 6, 1, 7, 0] rfl)
                refine lv_iload hx hb dX1_safe_59 (lv_at hl 5 rfl) ?_
                refine lv_iconst (v := (-1)) hx hb dX1_safe_61 (by decide) ?_
                refine lv_icmp_eq (tgt := 72) hx hb dX1_safe_62 (by decide) (fun c_19 => ?_) (fun c_19 => ?_)
                · exact join72 ()  _ _ _ hP hD hS (lv_sub hl [0, 1, 2, 3, 4, 5, 6, 7] rfl)
                · refine lv_iload hx hb dX1_safe_65 (lv_at hl 0 rfl) ?_
                  refine lv_iload hx hb dX1_safe_67 (lv_at hl 5 rfl) ?_
                  refine lv_icmp_ge (tgt := 84) hx hb dX1_safe_69 (by decide) (fun c_20 => ?_) (fun c_20 => ?_)
                  · refine lv_iinc (v := nI (y + 1)) (lv' := [(6, .int (nI (y + 1))), (7, .int r_13), (0, .ref v0), (1, .int am), (2, .int a), (3, .int (nI d)), (4, .int le), (5, .int (nI x))]) hx hb dX1_safe_84 hl (k := 7) rfl (nI_1 y) (by decide) rfl (fun ls hl => ?_)
                    refine lv_goto (tgt := 20) hx hb dX1_safe_87 (by decide) ?_
                    exact ih20 (y + 1) le dd uf_10 (by omega) (by omega) _ _ _ hP hD hS (lv_sub hl [2, 3, 4, 5, 6, 7, 0] rfl)
                  · exact join72 ()  _ _ _ hP hD hS (lv_sub hl [0, 1, 2, 3, 4, 5, 6, 7] rfl)
              · refine lv_goto (tgt := 84) hx hb dX1_safe_48 (by decide) ?_
                refine lv_iinc (v := nI (y + 1)) (lv' := [(6, .int (nI (y + 1))), (0, .ref v0), (1, .int am), (2, .int a), (3, .int (nI d)), (4, .int le), (5, .int (nI x))]) hx hb dX1_safe_84 hl (k := 6) rfl (nI_1 y) (by decide) rfl (fun ls hl => ?_)
                refine lv_goto (tgt := 20) hx hb dX1_safe_87 (by decide) ?_
                exact ih20 (y + 1) le dd uf_10 (by omega) (by omega) _ _ _ hP hD hS (lv_sub hl [1, 2, 3, 4, 5, 6, 0] rfl)
        exact loop20 ((d - x + 1 - 0) + 1) 0 le dd pu (Nat.lt_succ_self _) (Nat.zero_le _) _ _ _ hP hD hS (lv_sub hl [1, 2, 3, 4, 5, 6, 0] rfl)
  exact loop11 ((d + 1 - 0) + 1) 0 (-1) 0 pf (Nat.lt_succ_self _) (Nat.zero_le _) _ _ _ hP hD hS (lv_sub hl [2, 3, 4, 5, 1, 0] rfl)
set_option maxHeartbeats 4000000 in
set_option maxRecDepth 100000 in
theorem g_X1_sure (l : Launch) (g : he_G) (v0 : Nat) (v1 : Nat) (v2 : Nat) (v3 : Nat) (v : Nat) (dg : Int32) (wo : Nat → Int32) (he_ : Nat → Int32) (pf : Nat → Int32) (d : Nat) (a : Int32) (hv3 : v ≤ 3) (hd6 : d ≤ 6) : he_I l yX1_sure wsX1_sure 3 60 0 0 g [.ref v0, .int (nI d), .int a] [(oX1 v0 v1 v2 v3 (nI v) dg), (aI g v1 3 wo), (aI g v2 3 he_), (aI g v3 3 pf)] (fun (r : Int32) (u : Nat → Int32) => True) (fun (u : Nat → Int32) => [(oX1 v0 v1 v2 v3 (nI v) dg), (aI g v1 3 wo), (aI g v2 3 he_), (aI g v3 3 u)]) := by
  refine he_begin (l := l) (g := g) (y := yX1_sure) (wl := wsX1_sure) (fr := 3) (lo := 60) (mc := 0) (ms := 0) (av := [.ref v0, .int (nI d), .int a]) (ws := [(oX1 v0 v1 v2 v3 (nI v) dg), (aI g v1 3 wo), (aI g v2 3 he_), (aI g v3 3 pf)]) (cc := cX1_sure) (maxL := 6) (ret := (some .int)) (fun A => va_Qi (fun (r : Int32) (u : Nat → Int32) => True) (fun u t => he_post g A ((fun (u : Nat → Int32) => [(oX1 v0 v1 v2 v3 (nI v) dg), (aI g v1 3 wo), (aI g v2 3 he_), (aI g v3 3 u)]) u) t) A) (by decide) rfl (Nat.le_of_ble_eq_true rfl) ?_
  intro p e s m args below meth c A ls H locs Q hQ hB
  obtain ⟨hx, hb, hr, hml, hown, hts, hlk, hin, hP, hK, hD, hS, hA, hE, hl⟩ := hB
  have hl : lv_has ls 6 [(0, .ref v0), (1, .int (nI d)), (2, .int a)] := hl
  have ml51 := hts (.methodLink RX1 51 Lib.Math.max.name) (iwoX1_sure (k := 0) rfl)
  have msmax := hts (.static Lib.Math.max.name) (iwoX1_sure (k := 1) rfl)
  have mi := hts (.initialized "java/lang/Math") (iwoX1_sure (k := 2) rfl)
  have mcmax := hts (.code Lib.Math.max.name Lib.Math.max.code 2 (some .int)) (by decide +kernel)
  refine lv_iconst (v := 0) hx hb dX1_sure_0 (by decide) ?_
  refine lv_istore_n (lv' := [(3, .int 0), (0, .ref v0), (1, .int (nI d)), (2, .int a)]) hx hb dX1_sure_1 rfl hl (by decide) rfl (fun ls hl => ?_)
  refine lv_iconst (v := 0) hx hb dX1_sure_2 (by decide) ?_
  refine lv_istore (lv' := [(4, .int 0), (3, .int 0), (0, .ref v0), (1, .int (nI d)), (2, .int a)]) hx hb dX1_sure_3 hl (by decide) rfl (fun ls hl => ?_)
  have loop5 : ∀ (n9 : Nat) (x : Nat) (mx : Int32) (pu : Nat → Int32), d + 1 - x < n9 → (x ≤ d + 1) → ∀ (H : Heap) (locs : List Loc) (ls : Array Slot), va_P g.1 vwCl [(oX1 v0 v1 v2 v3 (nI v) dg), (aI g v1 3 wo), (aI g v2 3 he_), (aI g v3 3 pu)] H → va_D A [(oX1 v0 v1 v2 v3 (nI v) dg), (aI g v1 3 wo), (aI g v2 3 he_), (aI g v3 3 pu)] → va_S A s.heap H locs → lv_has ls 6 [(0, .ref v0), (1, .int (nI d)), (2, .int a), (3, .int mx), (4, .int (nI x))] → W p l e (he_room 3 60 0 0) s m args below meth c H locs 0 0 Q (F0 m 5 ls []) := by
    intro n9
    induction n9 with
    | zero => intro x mx pu hm9; exact absurd hm9 (Nat.not_lt_zero _)
    | succ n9 ih5 =>
      intro x mx pu hm9 hx6 H locs ls hP hD hS hl
      refine lv_iload hx hb dX1_sure_5 (lv_at hl 4 rfl) ?_
      refine lv_iload_n hx hb dX1_sure_7 rfl (lv_at hl 1 rfl) ?_
      refine lv_icmp_gt (tgt := 67) hx hb dX1_sure_8 (by decide) (fun c_1 => ?_) (fun c_1 => ?_)
      · have k_2 : d < x := (he_clt (a := d) (b := x) rfl rfl (by omega) (by omega)).mp c_1
        refine lv_iload_n hx hb dX1_sure_67 rfl (lv_at hl 3 rfl) ?_
        exact he_ri hQ hx hb hr hlk hP hD hS dX1_sure_68 (Nat.le_of_ble_eq_true rfl) (Nat.le_of_ble_eq_true rfl) (pu) (rfl) (trivial)
      · have k_3 : ¬ (d < x) := fun h9 => c_1 ((he_clt (a := d) (b := x) rfl rfl (by omega) (by omega)).mpr h9)
        refine lv_iconst (v := 0) hx hb dX1_sure_11 (by decide) ?_
        refine lv_istore (lv' := [(5, .int 0), (0, .ref v0), (1, .int (nI d)), (2, .int a), (3, .int mx), (4, .int (nI x))]) hx hb dX1_sure_12 hl (by decide) rfl (fun ls hl => ?_)
        have loop14 : ∀ (n9 : Nat) (y : Nat) (mx : Int32) (pu : Nat → Int32), d - x + 1 - y < n9 → (y ≤ d - x + 1) → ∀ (H : Heap) (locs : List Loc) (ls : Array Slot), va_P g.1 vwCl [(oX1 v0 v1 v2 v3 (nI v) dg), (aI g v1 3 wo), (aI g v2 3 he_), (aI g v3 3 pu)] H → va_D A [(oX1 v0 v1 v2 v3 (nI v) dg), (aI g v1 3 wo), (aI g v2 3 he_), (aI g v3 3 pu)] → va_S A s.heap H locs → lv_has ls 6 [(0, .ref v0), (1, .int (nI d)), (2, .int a), (3, .int mx), (4, .int (nI x)), (5, .int (nI y))] → W p l e (he_room 3 60 0 0) s m args below meth c H locs 0 0 Q (F0 m 14 ls []) := by
          intro n9
          induction n9 with
          | zero => intro y mx pu hm9; exact absurd hm9 (Nat.not_lt_zero _)
          | succ n9 ih14 =>
            intro y mx pu hm9 hy6 H locs ls hP hD hS hl
            refine lv_iload hx hb dX1_sure_14 (lv_at hl 5 rfl) ?_
            refine lv_iload_n hx hb dX1_sure_16 rfl (lv_at hl 1 rfl) ?_
            refine lv_iload hx hb dX1_sure_17 (lv_at hl 4 rfl) ?_
            refine lv_isub hx hb dX1_sure_19 ?_
            refine he_top (nI (d - x)) (pk_sub (by omega)) ?_
            refine lv_icmp_gt (tgt := 61) hx hb dX1_sure_20 (by decide) (fun c_4 => ?_) (fun c_4 => ?_)
            · have k_5 : d - x < y := (he_clt (a := d - x) (b := y) rfl rfl (by omega) (by omega)).mp c_4
              refine lv_iinc (v := nI (x + 1)) (lv' := [(4, .int (nI (x + 1))), (0, .ref v0), (1, .int (nI d)), (2, .int a), (3, .int mx), (5, .int (nI y))]) hx hb dX1_sure_61 hl (k := 4) rfl (nI_1 x) (by decide) rfl (fun ls hl => ?_)
              refine lv_goto (tgt := 5) hx hb dX1_sure_64 (by decide) ?_
              exact ih5 (x + 1) mx pu (by omega) (by omega) _ _ _ hP hD hS (lv_sub hl [1, 2, 3, 4, 0] rfl)
            · have k_6 : ¬ (d - x < y) := fun h9 => c_4 ((he_clt (a := d - x) (b := y) rfl rfl (by omega) (by omega)).mpr h9)
              refine lv_aload_n hx hb dX1_sure_23 rfl (lv_at hl 0 rfl) ?_
              refine lv_aload_n hx hb dX1_sure_24 rfl (lv_at hl 0 rfl) ?_
              refine he_ci (wc := [(oX1 v0 v1 v2 v3 (nI v) dg), (aI g v1 3 wo), (aI g v2 3 he_), (aI g v3 3 pu)]) (wr := []) (va_runV (As := []) (rest := [.ref v0]) ⟨hx, hb, hml, hown, hts⟩ (g_X1_all l g v0 v1 v2 v3 v dg wo he_ pu (by first | assumption | decide | omega) H.size) (cwV 0 hts gX1_sure_X1_all rfl rfl rfl (by decide +kernel) ⟨Nat.le_of_ble_eq_true rfl, Nat.le_of_ble_eq_true rfl⟩) (he_preV (wc := [(oX1 v0 v1 v2 v3 (nI v) dg), (aI g v1 3 wo), (aI g v2 3 he_), (aI g v3 3 pu)]) hK hP hD hS hA hE [0, 1, 2, 3] rfl rfl 0 rfl rfl) rfl rfl hl.1 rfl (lv_room (Nat.le_of_ble_eq_true rfl)) dX1_sure_25 ⟨(Nat.le_of_ble_eq_true rfl), (Nat.le_of_ble_eq_true rfl)⟩) hP hD hS hA [0, 1, 2, 3] [] rfl rfl rfl (by decide) (fun r_7 u_8 H locs h_9 hP hD hS => ?_)
              subst h_9
              have hP : va_P g.1 vwCl [(oX1 v0 v1 v2 v3 (nI v) dg), (aI g v1 3 wo), (aI g v2 3 he_), (aI g v3 3 pu)] H := hP
              have hD : va_D A [(oX1 v0 v1 v2 v3 (nI v) dg), (aI g v1 3 wo), (aI g v2 3 he_), (aI g v3 3 pu)] := hD
              refine lv_iload hx hb dX1_sure_28 (lv_at hl 4 rfl) ?_
              refine lv_iload hx hb dX1_sure_30 (lv_at hl 5 rfl) ?_
              refine lv_iload_n hx hb dX1_sure_32 rfl (lv_at hl 1 rfl) ?_
              refine lv_iload hx hb dX1_sure_33 (lv_at hl 4 rfl) ?_
              refine lv_isub hx hb dX1_sure_35 ?_
              refine he_top (nI (d - x)) (pk_sub (by omega)) ?_
              refine lv_iload hx hb dX1_sure_36 (lv_at hl 5 rfl) ?_
              refine lv_isub hx hb dX1_sure_38 ?_
              refine he_top (nI (d - x - y)) (pk_sub (by omega)) ?_
              refine he_ci (wc := [(oX1 v0 v1 v2 v3 (nI v) dg), (aI g v1 3 wo), (aI g v2 3 he_), (aI g v3 3 pu)]) (wr := []) (va_runV (As := [.int (nI (allN v)), .int (nI x), .int (nI y), .int (nI (d - x - y))]) (rest := []) ⟨hx, hb, hml, hown, hts⟩ (g_X1_place l g v0 v1 v2 v3 v dg wo he_ pu (nI (allN v)) (nI x) (nI y) (nI (d - x - y)) H.size) (cwV 4 hts gX1_sure_X1_place rfl rfl rfl (by decide +kernel) ⟨Nat.le_of_ble_eq_true rfl, Nat.le_of_ble_eq_true rfl⟩) (he_preV (wc := [(oX1 v0 v1 v2 v3 (nI v) dg), (aI g v1 3 wo), (aI g v2 3 he_), (aI g v3 3 pu)]) hK hP hD hS hA hE [0, 1, 2, 3] rfl rfl 0 rfl rfl) rfl rfl hl.1 rfl (lv_room (Nat.le_of_ble_eq_true rfl)) dX1_sure_39 ⟨(Nat.le_of_ble_eq_true rfl), (Nat.le_of_ble_eq_true rfl)⟩) hP hD hS hA [0, 1, 2, 3] [] rfl rfl rfl (by decide) (fun r_10 u_11 H locs h_12 hP hD hS => ?_)
              obtain ⟨uf_13, rfl⟩ : ∃ z, z = u_11 := ⟨_, rfl⟩
              try dsimp only at h_12
              have hf_14 := h_12
              have hP : va_P g.1 vwCl [(oX1 v0 v1 v2 v3 (nI v) dg), (aI g v1 3 wo), (aI g v2 3 he_), (aI g v3 3 uf_13)] H := hP
              have hD : va_D A [(oX1 v0 v1 v2 v3 (nI v) dg), (aI g v1 3 wo), (aI g v2 3 he_), (aI g v3 3 uf_13)] := hD
              refine lv_if_eq (tgt := 55) hx hb dX1_sure_42 (by decide) (fun c_15 => ?_) (fun c_15 => ?_)
              · refine lv_iinc (v := nI (y + 1)) (lv' := [(5, .int (nI (y + 1))), (0, .ref v0), (1, .int (nI d)), (2, .int a), (3, .int mx), (4, .int (nI x))]) hx hb dX1_sure_55 hl (k := 5) rfl (nI_1 y) (by decide) rfl (fun ls hl => ?_)
                refine lv_goto (tgt := 14) hx hb dX1_sure_58 (by decide) ?_
                exact ih14 (y + 1) mx uf_13 (by omega) (by omega) _ _ _ hP hD hS (lv_sub hl [1, 2, 3, 4, 5, 0] rfl)
              · refine lv_iload_n hx hb dX1_sure_45 rfl (lv_at hl 3 rfl) ?_
                refine lv_aload_n hx hb dX1_sure_46 rfl (lv_at hl 0 rfl) ?_
                refine lv_iload_n hx hb dX1_sure_47 rfl (lv_at hl 2 rfl) ?_
                refine he_ci (wc := [(oX1 v0 v1 v2 v3 (nI v) dg), (aI g v1 3 wo), (aI g v2 3 he_), (aI g v3 3 uf_13)]) (wr := []) (va_runV (As := [.int a]) (rest := [.int mx]) ⟨hx, hb, hml, hown, hts⟩ (g_X1_leastFelled l g v0 v1 v2 v3 v dg wo he_ uf_13 a (by first | assumption | decide | omega) H.size) (cwV 1 hts gX1_sure_X1_leastFelled rfl rfl rfl (by decide +kernel) ⟨Nat.le_of_ble_eq_true rfl, Nat.le_of_ble_eq_true rfl⟩) (he_preV (wc := [(oX1 v0 v1 v2 v3 (nI v) dg), (aI g v1 3 wo), (aI g v2 3 he_), (aI g v3 3 uf_13)]) hK hP hD hS hA hE [0, 1, 2, 3] rfl rfl 0 rfl rfl) rfl rfl hl.1 rfl (lv_room (Nat.le_of_ble_eq_true rfl)) dX1_sure_48 ⟨(Nat.le_of_ble_eq_true rfl), (Nat.le_of_ble_eq_true rfl)⟩) hP hD hS hA [0, 1, 2, 3] [] rfl rfl rfl (by decide) (fun r_16 u_17 H locs h_18 hP hD hS => ?_)
                have hP : va_P g.1 vwCl [(oX1 v0 v1 v2 v3 (nI v) dg), (aI g v1 3 wo), (aI g v2 3 he_), (aI g v3 3 uf_13)] H := hP
                have hD : va_D A [(oX1 v0 v1 v2 v3 (nI v) dg), (aI g v1 3 wo), (aI g v2 3 he_), (aI g v3 3 uf_13)] := hD
                refine va_mmax hx hb (by rw [hml]; exact hl.1.symm) hown ml51 msmax mi mcmax (by decide) (Nat.le_of_ble_eq_true rfl) (Nat.le_of_ble_eq_true rfl) (Nat.le_of_ble_eq_true rfl) dX1_sure_51 ?_
                refine lv_istore_n (lv' := [(3, .int (if mx < r_16 then r_16 else mx)), (0, .ref v0), (1, .int (nI d)), (2, .int a), (4, .int (nI x)), (5, .int (nI y))]) hx hb dX1_sure_54 rfl hl (by decide) rfl (fun ls hl => ?_)
                refine lv_iinc (v := nI (y + 1)) (lv' := [(5, .int (nI (y + 1))), (3, .int (if mx < r_16 then r_16 else mx)), (0, .ref v0), (1, .int (nI d)), (2, .int a), (4, .int (nI x))]) hx hb dX1_sure_55 hl (k := 5) rfl (nI_1 y) (by decide) rfl (fun ls hl => ?_)
                refine lv_goto (tgt := 14) hx hb dX1_sure_58 (by decide) ?_
                exact ih14 (y + 1) (if mx < r_16 then r_16 else mx) uf_13 (by omega) (by omega) _ _ _ hP hD hS (lv_sub hl [2, 3, 4, 1, 5, 0] rfl)
        exact loop14 ((d - x + 1 - 0) + 1) 0 mx pu (Nat.lt_succ_self _) (Nat.zero_le _) _ _ _ hP hD hS (lv_sub hl [1, 2, 3, 4, 5, 0] rfl)
  exact loop5 ((d + 1 - 0) + 1) 0 0 pf (Nat.lt_succ_self _) (Nat.zero_le _) _ _ _ hP hD hS (lv_sub hl [2, 3, 4, 1, 0] rfl)
set_option maxHeartbeats 4000000 in
set_option maxRecDepth 100000 in
theorem g_X2_addF (l : Launch) (g : he_G) (b0 : Nat) (b1 : Nat) (b2 : Nat) (x : Int32) (y : Int32) (rl : Int64) (hd : Int64) (th : Int32) (a : Int32) (b : Int32) (hth : ¬ th < 12) : he_I l yX2_add wsX2_add 0 0 0 0 g [.ref b0, .int a, .int b] [(oX2 b0 b1 b2 x y rl hd th)] (fun (r : Int32) (u : Unit) => r = (-1)) (fun (u : Unit) => [(oX2 b0 b1 b2 x y rl hd th)]) := by
  refine he_begin (l := l) (g := g) (y := yX2_add) (wl := wsX2_add) (fr := 0) (lo := 0) (mc := 0) (ms := 0) (av := [.ref b0, .int a, .int b]) (ws := [(oX2 b0 b1 b2 x y rl hd th)]) (cc := cX2_add) (maxL := 3) (ret := (some .int)) (fun A => va_Qi (fun (r : Int32) (u : Unit) => r = (-1)) (fun u t => he_post g A ((fun (u : Unit) => [(oX2 b0 b1 b2 x y rl hd th)]) u) t) A) (by decide) rfl (Nat.le_of_ble_eq_true rfl) ?_
  intro p e s m args below meth c A ls H locs Q hQ hB
  obtain ⟨hx, hb, hr, hml, hown, hts, hlk, hin, hP, hK, hD, hS, hA, hE, hl⟩ := hB
  have hl : lv_has ls 3 [(0, .ref b0), (1, .int a), (2, .int b)] := hl
  have f33 := hts (.fieldLink RX2 33 "HiredEnemy$Belief" "things" "I") (iwoX2_add (k := 0) rfl)
  have inX2 : ∀ w ∈ wsX20, w ∈ wsX2_add := innX2_add_X2
  refine lv_aload_n hx hb dX2_add_0 rfl (lv_at hl 0 rfl) ?_
  refine va_get (v := .int th) (T := TX2) (N := 7) hx hb hts inX2 hown hK hP 0 rfl rfl 6 (by decide) f33 (fun _ h9 => h9) rfl dX2_add_1 ?_
  refine lv_bipush (v := 12) hx hb dX2_add_4 (by decide) ?_
  refine lv_icmp_lt (tgt := 11) hx hb dX2_add_6 (by decide) (fun c_1 => ?_) (fun c_1 => ?_)
  · exact absurd c_1 hth
  · refine lv_iconst (v := (-1)) hx hb dX2_add_9 (by decide) ?_
    exact he_ri hQ hx hb hr hlk hP hD hS dX2_add_10 (Nat.le_of_ble_eq_true rfl) (Nat.le_of_ble_eq_true rfl) (()) (rfl) (rfl)
set_option maxHeartbeats 4000000 in
set_option maxRecDepth 100000 in
theorem g_X2_add (l : Launch) (g : he_G) (b0 : Nat) (b1 : Nat) (b2 : Nat) (x : Int32) (y : Int32) (rl : Int64) (hd : Int64) (th : Int32) (a : Int32) (b : Int32) (hth : th < 12) : he_I l yX2_add wsX2_add 0 0 0 0 g [.ref b0, .int a, .int b] [(oX2 b0 b1 b2 x y rl hd th)] (fun (r : Int32) (u : Unit) => r = th + 1) (fun (u : Unit) => [(oX2 b0 b1 b2 x y (rl * Int32.toInt64 a) (hd * Int32.toInt64 b) (th + 1))]) := by
  refine he_begin (l := l) (g := g) (y := yX2_add) (wl := wsX2_add) (fr := 0) (lo := 0) (mc := 0) (ms := 0) (av := [.ref b0, .int a, .int b]) (ws := [(oX2 b0 b1 b2 x y rl hd th)]) (cc := cX2_add) (maxL := 3) (ret := (some .int)) (fun A => va_Qi (fun (r : Int32) (u : Unit) => r = th + 1) (fun u t => he_post g A ((fun (u : Unit) => [(oX2 b0 b1 b2 x y (rl * Int32.toInt64 a) (hd * Int32.toInt64 b) (th + 1))]) u) t) A) (by decide) rfl (Nat.le_of_ble_eq_true rfl) ?_
  intro p e s m args below meth c A ls H locs Q hQ hB
  obtain ⟨hx, hb, hr, hml, hown, hts, hlk, hin, hP, hK, hD, hS, hA, hE, hl⟩ := hB
  have hl : lv_has ls 3 [(0, .ref b0), (1, .int a), (2, .int b)] := hl
  have f33 := hts (.fieldLink RX2 33 "HiredEnemy$Belief" "things" "I") (iwoX2_add (k := 0) rfl)
  have inX2 : ∀ w ∈ wsX20, w ∈ wsX2_add := innX2_add_X2
  have f23 := hts (.fieldLink RX2 23 "HiredEnemy$Belief" "real" "J") (iwoX2_add (k := 1) rfl)
  have f27 := hts (.fieldLink RX2 27 "HiredEnemy$Belief" "hired" "J") (iwoX2_add (k := 2) rfl)
  refine lv_aload_n hx hb dX2_add_0 rfl (lv_at hl 0 rfl) ?_
  refine va_get (v := .int th) (T := TX2) (N := 7) hx hb hts inX2 hown hK hP 0 rfl rfl 6 (by decide) f33 (fun _ h9 => h9) rfl dX2_add_1 ?_
  refine lv_bipush (v := 12) hx hb dX2_add_4 (by decide) ?_
  refine lv_icmp_lt (tgt := 11) hx hb dX2_add_6 (by decide) (fun c_1 => ?_) (fun c_1 => ?_)
  · refine lv_aload_n hx hb dX2_add_11 rfl (lv_at hl 0 rfl) ?_
    refine lv_dup hx hb dX2_add_12 rfl ?_
    refine va_get (v := .long rl) (T := TX2) (N := 7) hx hb hts inX2 hown hK hP 0 rfl rfl 4 (by decide) f23 (fun _ h9 => h9) rfl dX2_add_13 ?_
    refine lv_iload_n hx hb dX2_add_16 rfl (lv_at hl 1 rfl) ?_
    refine lv_i2l (v := Int32.toInt64 a) hx hb dX2_add_17 rfl ?_
    refine lv_lmul hx hb dX2_add_18 ?_
    refine va_put (v := .long (rl * (Int32.toInt64 a))) (ty := .long) (T := TX2) (N := 7) hx hb hts inX2 tyX2 tyX2_ok nmX2 hown hK hP hD hS 0 rfl rfl 4 (by decide) f23 (fun _ h9 => h9) rfl (by decide +kernel) rfl rfl (Nat.le_of_ble_eq_true rfl) dX2_add_19 (fun H locs hP hD hS => ?_)
    have hP : va_P g.1 vwCl [(oX2 b0 b1 b2 x y (rl * (Int32.toInt64 a)) hd th)] H := hP
    have hD : va_D A [(oX2 b0 b1 b2 x y (rl * (Int32.toInt64 a)) hd th)] := hD
    refine lv_aload_n hx hb dX2_add_22 rfl (lv_at hl 0 rfl) ?_
    refine lv_dup hx hb dX2_add_23 rfl ?_
    refine va_get (v := .long hd) (T := TX2) (N := 7) hx hb hts inX2 hown hK hP 0 rfl rfl 5 (by decide) f27 (fun _ h9 => h9) rfl dX2_add_24 ?_
    refine lv_iload_n hx hb dX2_add_27 rfl (lv_at hl 2 rfl) ?_
    refine lv_i2l (v := Int32.toInt64 b) hx hb dX2_add_28 rfl ?_
    refine lv_lmul hx hb dX2_add_29 ?_
    refine va_put (v := .long (hd * (Int32.toInt64 b))) (ty := .long) (T := TX2) (N := 7) hx hb hts inX2 tyX2 tyX2_ok nmX2 hown hK hP hD hS 0 rfl rfl 5 (by decide) f27 (fun _ h9 => h9) rfl (by decide +kernel) rfl rfl (Nat.le_of_ble_eq_true rfl) dX2_add_30 (fun H locs hP hD hS => ?_)
    have hP : va_P g.1 vwCl [(oX2 b0 b1 b2 x y (rl * (Int32.toInt64 a)) (hd * (Int32.toInt64 b)) th)] H := hP
    have hD : va_D A [(oX2 b0 b1 b2 x y (rl * (Int32.toInt64 a)) (hd * (Int32.toInt64 b)) th)] := hD
    refine lv_aload_n hx hb dX2_add_33 rfl (lv_at hl 0 rfl) ?_
    refine lv_dup hx hb dX2_add_34 rfl ?_
    refine va_get (v := .int th) (T := TX2) (N := 7) hx hb hts inX2 hown hK hP 0 rfl rfl 6 (by decide) f33 (fun _ h9 => h9) rfl dX2_add_35 ?_
    refine lv_iconst (v := 1) hx hb dX2_add_38 (by decide) ?_
    refine lv_iadd hx hb dX2_add_39 ?_
    refine va_put (v := .int (th + 1)) (ty := .int) (T := TX2) (N := 7) hx hb hts inX2 tyX2 tyX2_ok nmX2 hown hK hP hD hS 0 rfl rfl 6 (by decide) f33 (fun _ h9 => h9) rfl (by decide +kernel) rfl rfl (Nat.le_of_ble_eq_true rfl) dX2_add_40 (fun H locs hP hD hS => ?_)
    have hP : va_P g.1 vwCl [(oX2 b0 b1 b2 x y (rl * (Int32.toInt64 a)) (hd * (Int32.toInt64 b)) (th + 1))] H := hP
    have hD : va_D A [(oX2 b0 b1 b2 x y (rl * (Int32.toInt64 a)) (hd * (Int32.toInt64 b)) (th + 1))] := hD
    refine lv_aload_n hx hb dX2_add_43 rfl (lv_at hl 0 rfl) ?_
    refine va_get (v := .int (th + 1)) (T := TX2) (N := 7) hx hb hts inX2 hown hK hP 0 rfl rfl 6 (by decide) f33 (fun _ h9 => h9) rfl dX2_add_44 ?_
    exact he_ri hQ hx hb hr hlk hP hD hS dX2_add_47 (Nat.le_of_ble_eq_true rfl) (Nat.le_of_ble_eq_true rfl) (()) (rfl) (rfl)
  · exact absurd hth c_1
set_option maxHeartbeats 4000000 in
set_option maxRecDepth 100000 in
theorem g_X2_least (l : Launch) (g : he_G) (b0 : Nat) (b1 : Nat) (b2 : Nat) (x : Int32) (y : Int32) (rl : Int64) (hd : Int64) (th : Int32) (v : Int32)  : he_J l yX2_leastTerm wsX2_leastTerm 0 0 0 0 g [.ref b0, .int v] [(oX2 b0 b1 b2 x y rl hd th)] (fun (r : Int64) (u : Unit) => True) (fun (u : Unit) => [(oX2 b0 b1 b2 x y rl hd th)]) := by
  refine he_begin (l := l) (g := g) (y := yX2_leastTerm) (wl := wsX2_leastTerm) (fr := 0) (lo := 0) (mc := 0) (ms := 0) (av := [.ref b0, .int v]) (ws := [(oX2 b0 b1 b2 x y rl hd th)]) (cc := cX2_leastTerm) (maxL := 9) (ret := (some .long)) (fun A => va_Ql (fun (r : Int64) (u : Unit) => True) (fun u t => he_post g A ((fun (u : Unit) => [(oX2 b0 b1 b2 x y rl hd th)]) u) t) A) (by decide) rfl (Nat.le_of_ble_eq_true rfl) ?_
  intro p e s m args below meth c A ls H locs Q hQ hB
  obtain ⟨hx, hb, hr, hml, hown, hts, hlk, hin, hP, hK, hD, hS, hA, hE, hl⟩ := hB
  have hl : lv_has ls 9 [(0, .ref b0), (1, .int v)] := hl
  have f23 := hts (.fieldLink RX2 23 "HiredEnemy$Belief" "real" "J") (iwoX2_leastTerm (k := 0) rfl)
  have inX2 : ∀ w ∈ wsX20, w ∈ wsX2_leastTerm := innX2_leastTerm_X2
  have f27 := hts (.fieldLink RX2 27 "HiredEnemy$Belief" "hired" "J") (iwoX2_leastTerm (k := 1) rfl)
  refine lv_aload_n hx hb dX2_leastTerm_0 rfl (lv_at hl 0 rfl) ?_
  refine va_get (v := .long rl) (T := TX2) (N := 7) hx hb hts inX2 hown hK hP 0 rfl rfl 4 (by decide) f23 (fun _ h9 => h9) rfl dX2_leastTerm_1 ?_
  refine lv_lstore_n (lv' := [(2, .long rl), (0, .ref b0), (1, .int v)]) hx hb dX2_leastTerm_4 rfl hl (by decide) rfl (fun ls hl => ?_)
  refine lv_aload_n hx hb dX2_leastTerm_5 rfl (lv_at hl 1 rfl) ?_
  refine va_get (v := .long hd) (T := TX2) (N := 7) hx hb hts inX2 hown hK hP 0 rfl rfl 5 (by decide) f27 (fun _ h9 => h9) rfl dX2_leastTerm_6 ?_
  refine lv_lstore (lv' := [(4, .long hd), (2, .long rl), (0, .ref b0), (1, .int v)]) hx hb dX2_leastTerm_9 hl (by decide) rfl (fun ls hl => ?_)
  refine lv_iconst (v := 0) hx hb dX2_leastTerm_11 (by decide) ?_
  refine lv_istore (lv' := [(6, .int 0), (4, .long hd), (2, .long rl), (0, .ref b0), (1, .int v)]) hx hb dX2_leastTerm_12 hl (by decide) rfl (fun ls hl => ?_)
  have loop14 : ∀ (n9 : Nat) (j : Nat) (ea : Int64) (eb : Int64), 200 - j < n9 → (j ≤ 200) → ∀ (H : Heap) (locs : List Loc) (ls : Array Slot), va_P g.1 vwCl [(oX2 b0 b1 b2 x y rl hd th)] H → va_D A [(oX2 b0 b1 b2 x y rl hd th)] → va_S A s.heap H locs → lv_has ls 9 [(0, .ref b0), (1, .int v), (2, .long ea), (4, .long eb), (6, .int (nI j))] → W p l e (he_room 0 0 0 0) s m args below meth c H locs 0 0 Q (F0 m 14 ls []) := by
    intro n9
    induction n9 with
    | zero => intro j ea eb hm9; exact absurd hm9 (Nat.not_lt_zero _)
    | succ n9 ih14 =>
      intro j ea eb hm9 hj H locs ls hP hD hS hl
      refine lv_iload hx hb dX2_leastTerm_14 (lv_at hl 4 rfl) ?_
      refine lv_sipush (v := 200) hx hb dX2_leastTerm_16 (by decide) ?_
      refine lv_icmp_ge (tgt := 48) hx hb dX2_leastTerm_19 (by decide) (fun c_1 => ?_) (fun c_1 => ?_)
      · have k_2 : 200 ≤ j := (he_cle (a := 200) (b := j) (by decide) rfl (by omega) (by omega)).mp c_1
        have join63 : ∀ (tm : Int64), ∀ (H : Heap) (locs : List Loc) (ls : Array Slot), va_P g.1 vwCl [(oX2 b0 b1 b2 x y rl hd th)] H → va_D A [(oX2 b0 b1 b2 x y rl hd th)] → va_S A s.heap H locs → lv_has ls 9 [(0, .ref b0), (1, .int v), (2, .long ea), (4, .long eb)] → W p l e (he_room 0 0 0 0) s m args below meth c H locs 0 0 Q (F0 m 63 ls [.long tm]) := by
          intro tm H locs ls hP hD hS hl
          refine lv_lstore (lv' := [(6, .long tm), (0, .ref b0), (1, .int v), (2, .long ea), (4, .long eb)]) hx hb dX2_leastTerm_63 hl (by decide) rfl (fun ls hl => ?_)
          refine lv_lload_n hx hb dX2_leastTerm_65 rfl (lv_at hl 3 rfl) ?_
          refine lv_lconst (v := 0) hx hb dX2_leastTerm_66 (by decide) ?_
          refine W.lcmp hx hb dX2_leastTerm_67 ?_
          refine lv_if_le (tgt := 78) hx hb dX2_leastTerm_68 (by decide) (fun c_3 => ?_) (fun c_3 => ?_)
          · refine lv_lload hx hb dX2_leastTerm_78 (lv_at hl 0 rfl) ?_
            exact he_rj hQ hx hb hr hlk hP hD hS dX2_leastTerm_80 (Nat.le_of_ble_eq_true rfl) (Nat.le_of_ble_eq_true rfl) (()) (rfl) (trivial)
          · refine lv_lload hx hb dX2_leastTerm_71 (lv_at hl 0 rfl) ?_
            refine lv_lload_n hx hb dX2_leastTerm_73 rfl (lv_at hl 3 rfl) ?_
            refine lv_ldiv hx hb dX2_leastTerm_74 (fun h9 => c_3 (by rw [h9]; decide)) ?_
            refine lv_goto (tgt := 80) hx hb dX2_leastTerm_75 (by decide) ?_
            exact he_rj hQ hx hb hr hlk hP hD hS dX2_leastTerm_80 (Nat.le_of_ble_eq_true rfl) (Nat.le_of_ble_eq_true rfl) (()) (rfl) (trivial)
        refine lv_iload_n hx hb dX2_leastTerm_48 rfl (lv_at hl 1 rfl) ?_
        refine lv_if_eq (tgt := 59) hx hb dX2_leastTerm_49 (by decide) (fun c_4 => ?_) (fun c_4 => ?_)
        · refine lv_aload_n hx hb dX2_leastTerm_59 rfl (lv_at hl 0 rfl) ?_
          refine va_get (v := .long hd) (T := TX2) (N := 7) hx hb hts inX2 hown hK hP 0 rfl rfl 5 (by decide) f27 (fun _ h9 => h9) rfl dX2_leastTerm_60 ?_
          exact join63 hd  _ _ _ hP hD hS (lv_sub hl [0, 1, 2, 3] rfl)
        · refine lv_aload_n hx hb dX2_leastTerm_52 rfl (lv_at hl 0 rfl) ?_
          refine va_get (v := .long rl) (T := TX2) (N := 7) hx hb hts inX2 hown hK hP 0 rfl rfl 4 (by decide) f23 (fun _ h9 => h9) rfl dX2_leastTerm_53 ?_
          refine lv_goto (tgt := 63) hx hb dX2_leastTerm_56 (by decide) ?_
          exact join63 rl  _ _ _ hP hD hS (lv_sub hl [0, 1, 2, 3] rfl)
      · have k_5 : ¬ (200 ≤ j) := fun h9 => c_1 ((he_cle (a := 200) (b := j) (by decide) rfl (by omega) (by omega)).mpr h9)
        refine lv_lload hx hb dX2_leastTerm_22 (lv_at hl 3 rfl) ?_
        refine lv_lconst (v := 0) hx hb dX2_leastTerm_24 (by decide) ?_
        refine W.lcmp hx hb dX2_leastTerm_25 ?_
        refine lv_if_eq (tgt := 48) hx hb dX2_leastTerm_26 (by decide) (fun c_6 => ?_) (fun c_6 => ?_)
        · have join63 : ∀ (tm : Int64), ∀ (H : Heap) (locs : List Loc) (ls : Array Slot), va_P g.1 vwCl [(oX2 b0 b1 b2 x y rl hd th)] H → va_D A [(oX2 b0 b1 b2 x y rl hd th)] → va_S A s.heap H locs → lv_has ls 9 [(0, .ref b0), (1, .int v), (2, .long ea), (4, .long eb)] → W p l e (he_room 0 0 0 0) s m args below meth c H locs 0 0 Q (F0 m 63 ls [.long tm]) := by
            intro tm H locs ls hP hD hS hl
            refine lv_lstore (lv' := [(6, .long tm), (0, .ref b0), (1, .int v), (2, .long ea), (4, .long eb)]) hx hb dX2_leastTerm_63 hl (by decide) rfl (fun ls hl => ?_)
            refine lv_lload_n hx hb dX2_leastTerm_65 rfl (lv_at hl 3 rfl) ?_
            refine lv_lconst (v := 0) hx hb dX2_leastTerm_66 (by decide) ?_
            refine W.lcmp hx hb dX2_leastTerm_67 ?_
            refine lv_if_le (tgt := 78) hx hb dX2_leastTerm_68 (by decide) (fun c_7 => ?_) (fun c_7 => ?_)
            · refine lv_lload hx hb dX2_leastTerm_78 (lv_at hl 0 rfl) ?_
              exact he_rj hQ hx hb hr hlk hP hD hS dX2_leastTerm_80 (Nat.le_of_ble_eq_true rfl) (Nat.le_of_ble_eq_true rfl) (()) (rfl) (trivial)
            · refine lv_lload hx hb dX2_leastTerm_71 (lv_at hl 0 rfl) ?_
              refine lv_lload_n hx hb dX2_leastTerm_73 rfl (lv_at hl 3 rfl) ?_
              refine lv_ldiv hx hb dX2_leastTerm_74 (fun h9 => c_7 (by rw [h9]; decide)) ?_
              refine lv_goto (tgt := 80) hx hb dX2_leastTerm_75 (by decide) ?_
              exact he_rj hQ hx hb hr hlk hP hD hS dX2_leastTerm_80 (Nat.le_of_ble_eq_true rfl) (Nat.le_of_ble_eq_true rfl) (()) (rfl) (trivial)
          refine lv_iload_n hx hb dX2_leastTerm_48 rfl (lv_at hl 1 rfl) ?_
          refine lv_if_eq (tgt := 59) hx hb dX2_leastTerm_49 (by decide) (fun c_8 => ?_) (fun c_8 => ?_)
          · refine lv_aload_n hx hb dX2_leastTerm_59 rfl (lv_at hl 0 rfl) ?_
            refine va_get (v := .long hd) (T := TX2) (N := 7) hx hb hts inX2 hown hK hP 0 rfl rfl 5 (by decide) f27 (fun _ h9 => h9) rfl dX2_leastTerm_60 ?_
            exact join63 hd  _ _ _ hP hD hS (lv_sub hl [0, 1, 2, 3] rfl)
          · refine lv_aload_n hx hb dX2_leastTerm_52 rfl (lv_at hl 0 rfl) ?_
            refine va_get (v := .long rl) (T := TX2) (N := 7) hx hb hts inX2 hown hK hP 0 rfl rfl 4 (by decide) f23 (fun _ h9 => h9) rfl dX2_leastTerm_53 ?_
            refine lv_goto (tgt := 63) hx hb dX2_leastTerm_56 (by decide) ?_
            exact join63 rl  _ _ _ hP hD hS (lv_sub hl [0, 1, 2, 3] rfl)
        · refine lv_lload_n hx hb dX2_leastTerm_29 rfl (lv_at hl 2 rfl) ?_
          refine lv_lload hx hb dX2_leastTerm_30 (lv_at hl 3 rfl) ?_
          refine lv_lrem hx hb dX2_leastTerm_32 (fun h9 => c_6 (lcmp_0 h9)) ?_
          refine lv_lstore (lv' := [(7, .long (ea - ea / eb * eb)), (0, .ref b0), (1, .int v), (2, .long ea), (4, .long eb), (6, .int (nI j))]) hx hb dX2_leastTerm_33 hl (by decide) rfl (fun ls hl => ?_)
          refine lv_lload hx hb dX2_leastTerm_35 (lv_at hl 4 rfl) ?_
          refine lv_lstore_n (lv' := [(2, .long eb), (7, .long (ea - ea / eb * eb)), (0, .ref b0), (1, .int v), (4, .long eb), (6, .int (nI j))]) hx hb dX2_leastTerm_37 rfl hl (by decide) rfl (fun ls hl => ?_)
          refine lv_lload hx hb dX2_leastTerm_38 (lv_at hl 1 rfl) ?_
          refine lv_lstore (lv' := [(4, .long (ea - ea / eb * eb)), (2, .long eb), (7, .long (ea - ea / eb * eb)), (0, .ref b0), (1, .int v), (6, .int (nI j))]) hx hb dX2_leastTerm_40 hl (by decide) rfl (fun ls hl => ?_)
          refine lv_iinc (v := nI (j + 1)) (lv' := [(6, .int (nI (j + 1))), (4, .long (ea - ea / eb * eb)), (2, .long eb), (7, .long (ea - ea / eb * eb)), (0, .ref b0), (1, .int v)]) hx hb dX2_leastTerm_42 hl (k := 5) rfl (nI_1 j) (by decide) rfl (fun ls hl => ?_)
          refine lv_goto (tgt := 14) hx hb dX2_leastTerm_45 (by decide) ?_
          exact ih14 (j + 1) eb (ea - ea / eb * eb) (by omega) (by omega) _ _ _ hP hD hS (lv_sub hl [4, 5, 2, 1, 0] rfl)
  exact loop14 ((200 - 0) + 1) 0 rl hd (Nat.lt_succ_self _) (Nat.zero_le _) _ _ _ hP hD hS (lv_sub hl [3, 4, 2, 1, 0] rfl)
set_option maxHeartbeats 4000000 in
set_option maxRecDepth 100000 in
theorem g_X0_giveBack (l : Launch) (g : he_G) (a0 : Nat) (a1 : Nat) (ln : Nat → Int32) (h0 : Nat) (q0 : Nat) (q1 : Nat) (mo : Int32) (k : Nat) (f : Nat → Int32) (hk : k < 120) : he_V l yX0_giveBack wsX0_giveBack 1 22 0 0 g [.ref a0, .ref h0, .int (nI k)] [(oX0 a0 a1), (aI g a1 3600 ln), (oX4 h0 q0 q1 mo), (aI g q0 24 f)] (fun (u : Unit) => True) (fun (u : Unit) => [(oX0 a0 a1), (aI g a1 3600 ln), (oX4 h0 q0 q1 (nI k)), (aI g q0 24 (va_cpy ln f (k * 30) 0 24))]) := by
  refine he_begin (l := l) (g := g) (y := yX0_giveBack) (wl := wsX0_giveBack) (fr := 1) (lo := 22) (mc := 0) (ms := 0) (av := [.ref a0, .ref h0, .int (nI k)]) (ws := [(oX0 a0 a1), (aI g a1 3600 ln), (oX4 h0 q0 q1 mo), (aI g q0 24 f)]) (cc := cX0_giveBack) (maxL := 3) (ret := none) (fun A => va_Qv (fun (u : Unit) => True) (fun u t => he_post g A ((fun (u : Unit) => [(oX0 a0 a1), (aI g a1 3600 ln), (oX4 h0 q0 q1 (nI k)), (aI g q0 24 (va_cpy ln f (k * 30) 0 24))]) u) t) A) (by decide) rfl (Nat.le_of_ble_eq_true rfl) ?_
  intro p e s m args below meth c A ls H locs Q hQ hB
  obtain ⟨hx, hb, hr, hml, hown, hts, hlk, hin, hP, hK, hD, hS, hA, hE, hl⟩ := hB
  have hl : lv_has ls 3 [(0, .ref a0), (1, .ref h0), (2, .int (nI k))] := hl
  have nl21 := hE.nest (RX0, 21, yX10_within) (by decide +kernel)
  have iniX10 := hts (.initialized RX10) (iwoX0_giveBack (k := 8) rfl)
  have st_yX10_within := hts (.static yX10_within) (iwoX0_giveBack (k := 7) rfl)
  have f11 := hts (.fieldLink RX0 11 "HiredEnemy$Annals" "lines" "[I") (iwoX0_giveBack (k := 0) rfl)
  have inX0 : ∀ w ∈ wsX00, w ∈ wsX0_giveBack := innX0_giveBack_X0
  have f25 := hts (.fieldLink RX0 25 "HiredEnemy$Course" "now" "[I") (iwoX0_giveBack (k := 1) rfl)
  have inX4 : ∀ w ∈ wsX40, w ∈ wsX0_giveBack := innX0_giveBack_X4
  have al28 := hts (.methodLink RX0 28 arraycopyName) (iwoX0_giveBack (k := 2) rfl)
  have an := hts (.native arraycopyName) (iwoX0_giveBack (k := 3) rfl)
  have ast := hts (.static arraycopyName) (iwoX0_giveBack (k := 4) rfl)
  have ai := hts (.initialized "java/lang/System") (iwoX0_giveBack (k := 5) rfl)
  have f15 := hts (.fieldLink RX0 15 "HiredEnemy$Course" "month" "I") (iwoX0_giveBack (k := 6) rfl)
  refine lv_iload_n hx hb dX0_giveBack_0 rfl (lv_at hl 2 rfl) ?_
  refine lv_iconst (v := 0) hx hb dX0_giveBack_1 (by decide) ?_
  refine lv_bipush (v := 119) hx hb dX0_giveBack_2 (by decide) ?_
  refine he_ci (wc := []) (wr := [(oX0 a0 a1), (aI g a1 3600 ln), (oX4 h0 q0 q1 mo), (aI g q0 24 f)]) (va_runSN (As := [.int (nI k), .int 0, .int 119]) (rest := []) ⟨hx, hb, hml, hown, hts⟩ (c_X10_within l g (nI k) 0 119 H.size) ⟨(va_cnB 3 hts gX0_giveBack_X10_within_n21 rfl rfl rfl nl21 iniX10 (by decide +kernel) ⟨Nat.le_of_ble_eq_true rfl, Nat.le_of_ble_eq_true rfl⟩), st_yX10_within, trivial⟩ (he_preS (wc := []) hK hP hD hS hA hE [] rfl rfl) rfl rfl hl.1 rfl (lv_room (Nat.le_of_ble_eq_true rfl)) dX0_giveBack_4 ⟨(Nat.le_of_ble_eq_true rfl), (Nat.le_of_ble_eq_true rfl)⟩) hP hD hS hA [] [0, 1, 2, 3] rfl rfl rfl (by decide) (fun r_1 u_2 H locs h_3 hP hD hS => ?_)
  subst h_3
  have hP : va_P g.1 vwCl [(oX0 a0 a1), (aI g a1 3600 ln), (oX4 h0 q0 q1 mo), (aI g q0 24 f)] H := hP
  have hD : va_D A [(oX0 a0 a1), (aI g a1 3600 ln), (oX4 h0 q0 q1 mo), (aI g q0 24 f)] := hD
  refine he_top (1) (he_within_in (a0 := 0) (B := 119) rfl rfl (by omega) (by omega) (by decide)) ?_
  refine lv_if_eq (tgt := 33) hx hb dX0_giveBack_7 (by decide) (fun c_4 => ?_) (fun c_4 => ?_)
  · exact absurd c_4 (by decide)
  · refine lv_aload_n hx hb dX0_giveBack_10 rfl (lv_at hl 0 rfl) ?_
    refine va_get (v := .ref a1) (T := TX0) (N := 1) hx hb hts inX0 hown hK hP 0 rfl rfl 0 (by decide) f11 (fun _ h9 => h9) rfl dX0_giveBack_11 ?_
    refine lv_iload_n hx hb dX0_giveBack_14 rfl (lv_at hl 2 rfl) ?_
    refine lv_bipush (v := 30) hx hb dX0_giveBack_15 (by decide) ?_
    refine lv_imul hx hb dX0_giveBack_17 ?_
    refine he_top (nI (k * 30)) (pk_mul k 30) ?_
    refine lv_aload_n hx hb dX0_giveBack_18 rfl (lv_at hl 1 rfl) ?_
    refine va_get (v := .ref q0) (T := TX4) (N := 3) hx hb hts inX4 hown hK hP 2 rfl rfl 0 (by decide) f25 (fun _ h9 => h9) rfl dX0_giveBack_19 ?_
    refine lv_iconst (v := 0) hx hb dX0_giveBack_22 (by decide) ?_
    refine lv_bipush (v := 24) hx hb dX0_giveBack_23 (by decide) ?_
    refine he_copy hx hb (by rw [hml]; exact hl.1.symm) hown al28 an ast ai hK hP hD hS 1 3 rfl rfl (k * 30) (0) (24) rfl (by decide) (by decide) (by first | decide | omega) (by first | decide | omega) (by decide) (by decide) (Nat.le_of_ble_eq_true rfl) (Nat.le_of_ble_eq_true rfl) dX0_giveBack_25 (fun H locs hP hD hS => ?_)
    have hP : va_P g.1 vwCl [(oX0 a0 a1), (aI g a1 3600 ln), (oX4 h0 q0 q1 mo), (aI g q0 24 (va_cpy ln f (k * 30) 0 24))] H := hP
    have hD : va_D A [(oX0 a0 a1), (aI g a1 3600 ln), (oX4 h0 q0 q1 mo), (aI g q0 24 (va_cpy ln f (k * 30) 0 24))] := hD
    refine lv_aload_n hx hb dX0_giveBack_28 rfl (lv_at hl 1 rfl) ?_
    refine lv_iload_n hx hb dX0_giveBack_29 rfl (lv_at hl 2 rfl) ?_
    refine va_put (v := .int (nI k)) (ty := .int) (T := TX4) (N := 3) hx hb hts inX4 tyX4 tyX4_ok nmX4 hown hK hP hD hS 2 rfl rfl 2 (by decide) f15 (fun _ h9 => h9) rfl (by decide +kernel) rfl rfl (Nat.le_of_ble_eq_true rfl) dX0_giveBack_30 (fun H locs hP hD hS => ?_)
    have hP : va_P g.1 vwCl [(oX0 a0 a1), (aI g a1 3600 ln), (oX4 h0 q0 q1 (nI k)), (aI g q0 24 (va_cpy ln f (k * 30) 0 24))] H := hP
    have hD : va_D A [(oX0 a0 a1), (aI g a1 3600 ln), (oX4 h0 q0 q1 (nI k)), (aI g q0 24 (va_cpy ln f (k * 30) 0 24))] := hD
    exact he_rv hQ hx hb hr hlk hP hD hS dX0_giveBack_33 (Nat.le_of_ble_eq_true rfl) (Nat.le_of_ble_eq_true rfl) (()) (rfl) (trivial)
set_option maxHeartbeats 4000000 in
set_option maxRecDepth 100000 in
theorem g_X0_shotAt (l : Launch) (g : he_G) (a0 : Nat) (a1 : Nat) (ln : Nat → Int32) (k : Nat) (j : Nat) (hk : k < 120) (hj : j < 6) : he_I l yX0_shotAt wsX0_shotAt 0 0 0 0 g [.ref a0, .int (nI k), .int (nI j)] [(oX0 a0 a1), (aI g a1 3600 ln)] (fun (r : Int32) (u : Unit) => r = ln (k * 30 + 24 + j)) (fun (u : Unit) => [(oX0 a0 a1), (aI g a1 3600 ln)]) := by
  refine he_begin (l := l) (g := g) (y := yX0_shotAt) (wl := wsX0_shotAt) (fr := 0) (lo := 0) (mc := 0) (ms := 0) (av := [.ref a0, .int (nI k), .int (nI j)]) (ws := [(oX0 a0 a1), (aI g a1 3600 ln)]) (cc := cX0_shotAt) (maxL := 3) (ret := (some .int)) (fun A => va_Qi (fun (r : Int32) (u : Unit) => r = ln (k * 30 + 24 + j)) (fun u t => he_post g A ((fun (u : Unit) => [(oX0 a0 a1), (aI g a1 3600 ln)]) u) t) A) (by decide) rfl (Nat.le_of_ble_eq_true rfl) ?_
  intro p e s m args below meth c A ls H locs Q hQ hB
  obtain ⟨hx, hb, hr, hml, hown, hts, hlk, hin, hP, hK, hD, hS, hA, hE, hl⟩ := hB
  have hl : lv_has ls 3 [(0, .ref a0), (1, .int (nI k)), (2, .int (nI j))] := hl
  have f11 := hts (.fieldLink RX0 11 "HiredEnemy$Annals" "lines" "[I") (iwoX0_shotAt (k := 0) rfl)
  have inX0 : ∀ w ∈ wsX00, w ∈ wsX0_shotAt := innX0_shotAt_X0
  refine lv_aload_n hx hb dX0_shotAt_0 rfl (lv_at hl 0 rfl) ?_
  refine va_get (v := .ref a1) (T := TX0) (N := 1) hx hb hts inX0 hown hK hP 0 rfl rfl 0 (by decide) f11 (fun _ h9 => h9) rfl dX0_shotAt_1 ?_
  refine lv_iload_n hx hb dX0_shotAt_4 rfl (lv_at hl 1 rfl) ?_
  refine lv_bipush (v := 30) hx hb dX0_shotAt_5 (by decide) ?_
  refine lv_imul hx hb dX0_shotAt_7 ?_
  refine he_top (nI (k * 30)) (pk_mul k 30) ?_
  refine lv_bipush (v := 24) hx hb dX0_shotAt_8 (by decide) ?_
  refine lv_iadd hx hb dX0_shotAt_10 ?_
  refine he_top (nI (k * 30 + 24)) (nI_add (k * 30) 24) ?_
  refine lv_iload_n hx hb dX0_shotAt_11 rfl (lv_at hl 2 rfl) ?_
  refine lv_iadd hx hb dX0_shotAt_12 ?_
  refine he_top (nI (k * 30 + 24 + j)) (nI_add (k * 30 + 24) j) ?_
  refine he_iald hx hb hK hP 1 rfl (k * 30 + 24 + j) rfl (by first | assumption | decide | omega) (by first | decide | assumption) (ln (k * 30 + 24 + j)) rfl dX0_shotAt_13 ?_
  exact he_ri hQ hx hb hr hlk hP hD hS dX0_shotAt_14 (Nat.le_of_ble_eq_true rfl) (Nat.le_of_ble_eq_true rfl) (()) (rfl) (rfl)
