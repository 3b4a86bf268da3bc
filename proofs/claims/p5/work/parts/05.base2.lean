def beginF (sd st : Nat → Int32) (w : Nat) (f : Nat → Int32) : Nat → Int32 := lwF (upd (upd (upd (upd (upd (upd (upd (flF (fun _ => 0) f 24) 0 (sd 3)) 3 (sd 4)) 1 (sd 6)) 4 (sd 7)) 2 (sd 9)) 5 (sd 12)) 10 (-1)) st w
theorem he_within_nat {x b : Int32} {B : Nat} (hb : b = nI B) (hB : B < 2147483648) (h : ¬ he_within x 0 b = 0) : x = nI x.toNatClampNeg ∧ x.toNatClampNeg ≤ B := by
  unfold he_within at h
  by_cases h1 : x < 0
  · simp [h1] at h
  · by_cases h2 : b < x
    · simp [h1, h2] at h
    · obtain ⟨j, hj, rfl⟩ := nI_of h1
      rw [nI_clamp hj]
      subst hb
      exact ⟨rfl, Nat.le_of_not_lt (fun h9 => h2 (nI_lt h9 hj))⟩
theorem he_within_in {k B : Nat} {a b : Int32} {a0 : Nat} (ha : a = nI a0) (hb : b = nI B) (h0 : a0 ≤ k) (hk : k ≤ B) (hB : B < 2147483648) : he_within (nI k) a b = 1 := by
  subst ha hb
  unfold he_within
  rw [if_neg (nI_nlt h0 (by omega)), if_neg (nI_nlt hk hB)]
def mdA (st me f : Nat → Int32) (i : Nat) : Int32 := if st i - f (12 + i) < me i then st i - f (12 + i) else me i
def mdB (sd f : Nat → Int32) (a : Int32) : Int32 := if sd 18 ≤ 0 then a else if f 0 / sd 18 < a then f 0 / sd 18 else a
theorem mdB_le {sd f : Nat → Int32} {a : Int32} (h : sd 18 ≤ 0) : mdB sd f a = a := if_pos h
theorem mdB_gt {sd f : Nat → Int32} {a : Int32} (h : ¬ sd 18 ≤ 0) : mdB sd f a = if f 0 / sd 18 < a then f 0 / sd 18 else a := if_neg h
def mendS (sd st me f : Nat → Int32) (i : Nat) : Nat → Int32 := mvF (upd f (12 + i) (f (12 + i) + mdB sd f (mdA st me f i))) 0 2 (mdB sd f (mdA st me f i) * sd 18)
def mendF (sd st me f : Nat → Int32) : Nat → Nat → Int32
  | 0 => f
  | i + 1 => mendS sd st me (mendF sd st me f i) i
theorem mendF_s (sd st me f : Nat → Int32) (i : Nat) : mendF sd st me f (i + 1) = mendS sd st me (mendF sd st me f i) i := rfl
def taxF (sd f : Nat → Int32) : Nat → Int32 := mvF f 2 0 (f 3 * sd 10 * f 5 / 10000)
def psA (sd f : Nat → Int32) : Nat → Int32 := upd f 5 (if 0 < f 5 - sd 14 then f 5 - sd 14 else 0)
def psB (sd f : Nat → Int32) : Nat → Int32 := mvF f 0 2 (sd 5 * (f 3 / 10))
def psC (sd f : Nat → Int32) : Nat → Int32 := mvF f 1 2 (sd 8 * (f 4 / 10))
def psD (sd f : Nat → Int32) : Nat → Int32 := dsF f (sd 8 - sd 5)
def psT (sd st me : Nat → Int32) (w : Nat) (f : Nat → Int32) : Nat → Int32 := psD sd (psC sd (psB sd (mendF sd st me (psA sd f) w)))
def wpF (pd : Nat → Int32) : Int32 := if pd 1 = -1 then pd 0 else pd 1
def payF (pd : Nat → Int32) (mo : Int32) : Int32 := if 10 ≤ mo - mo / 12 * 12 then wpF pd else if 1 < mo - mo / 12 * 12 then pd 0 else wpF pd
def wdX (wb : Nat → Int32) (x : Int32) : Int32 := if he_within x 0 35 = 0 then -1 else wb x.toNatClampNeg
def wdF (wb : Nat → Int32) (x v : Int32) : Int32 := if v ≤ wdX wb x then -1 else wdX wb x
def faF (fn : Nat → Int32) (x : Int32) : Int32 := if he_within x 0 9 = 0 then 0 else fn x.toNatClampNeg
def dfF (f : Nat → Int32) : Nat → Int32 := upd (upd f 8 (f 8 + 1)) 10 (-1)
def tlF (pd f : Nat → Int32) (mo : Int32) : Nat → Int32 := if mo - f 11 < pd 5 then f else upd f 10 (-1)
def clP (f : Nat → Int32) : Nat → Int32 := upd (upd (upd (upd (upd (upd f 0 0) 1 (-1)) 2 9) 3 0) 4 0) 5 36
def prP (f : Nat → Int32) (a b d till : Int32) : Nat → Int32 := upd (upd (upd (upd (clP f) 0 a) 2 b) 3 d) 5 till
def wantF (sd : Nat → Int32) (x k : Int32) : Int32 := sd 21 + sd 22 * k + sd 21 * (9 - x)
set_option maxHeartbeats 4000000 in
set_option maxRecDepth 100000 in
theorem c_X4_begin (l : Launch) (g : he_G) (h0 : Nat) (q0 : Nat) (q1 : Nat) (mo : Int32) (f : Nat → Int32) (p0 : Nat) (p1 : Nat) (p2 : Nat) (p3 : Nat) (p4 : Nat) (w : Nat) (sd : Nat → Int32) (st : Nat → Int32) (hw6 : w ≤ 6) : he_V l yX4_begin wsX4_begin 1 23 0 0 g [.ref h0, .ref p0] [(oX4 h0 q0 q1 mo), (aI g q0 24 f), (oX6 p0 p1 p2 p3 p4 (nI w)), (aI g p1 24 sd), (aI g p3 6 st)] (fun (u : Unit) => True) (fun (u : Unit) => [(oX4 h0 q0 q1 0), (aI g q0 24 (beginF sd st w f)), (oX6 p0 p1 p2 p3 p4 (nI w)), (aI g p1 24 sd), (aI g p3 6 st)]) := by
  refine he_begin (l := l) (g := g) (y := yX4_begin) (wl := wsX4_begin) (fr := 1) (lo := 23) (mc := 0) (ms := 0) (av := [.ref h0, .ref p0]) (ws := [(oX4 h0 q0 q1 mo), (aI g q0 24 f), (oX6 p0 p1 p2 p3 p4 (nI w)), (aI g p1 24 sd), (aI g p3 6 st)]) (cc := cX4_begin) (maxL := 3) (ret := none) (fun A => va_Qv (fun (u : Unit) => True) (fun u t => he_post g A ((fun (u : Unit) => [(oX4 h0 q0 q1 0), (aI g q0 24 (beginF sd st w f)), (oX6 p0 p1 p2 p3 p4 (nI w)), (aI g p1 24 sd), (aI g p3 6 st)]) u) t) A) (by decide) rfl (Nat.le_of_ble_eq_true rfl) ?_
  intro p e s m args below meth c A ls H locs Q hQ hB
  obtain ⟨hx, hb, hr, hml, hown, hts, hlk, hin, hP, hK, hD, hS, hA, hE, hl⟩ := hB
  have hl : lv_has ls 3 [(0, .ref h0), (1, .ref p0)] := hl
  have f18 := hts (.fieldLink RX4 18 "HiredEnemy$Course" "month" "I") (iwoX4_begin (k := 0) rfl)
  have inX4 : ∀ w ∈ wsX40, w ∈ wsX4_begin := innX4_begin_X4
  have f9 := hts (.fieldLink RX4 9 "HiredEnemy$Course" "now" "[I") (iwoX4_begin (k := 1) rfl)
  have f28 := hts (.fieldLink RX4 28 "HiredEnemy$Plan" "said" "[I") (iwoX4_begin (k := 2) rfl)
  have inX6 : ∀ w ∈ wsX60, w ∈ wsX4_begin := innX4_begin_X6
  have f33 := hts (.fieldLink RX4 33 "HiredEnemy$Plan" "walls" "I") (iwoX4_begin (k := 3) rfl)
  have f36 := hts (.fieldLink RX4 36 "HiredEnemy$Plan" "strength" "[I") (iwoX4_begin (k := 4) rfl)
  refine lv_aload_n hx hb dX4_begin_0 rfl (lv_at hl 0 rfl) ?_
  refine lv_iconst (v := 0) hx hb dX4_begin_1 (by decide) ?_
  refine va_put (v := .int 0) (ty := .int) (T := TX4) (N := 3) hx hb hts inX4 tyX4 tyX4_ok nmX4 hown hK hP hD hS 0 rfl rfl 2 (by decide) f18 (fun _ h9 => h9) rfl (by decide +kernel) rfl rfl (Nat.le_of_ble_eq_true rfl) dX4_begin_2 (fun H locs hP hD hS => ?_)
  have hP : va_P g.1 vwCl [(oX4 h0 q0 q1 0), (aI g q0 24 f), (oX6 p0 p1 p2 p3 p4 (nI w)), (aI g p1 24 sd), (aI g p3 6 st)] H := hP
  have hD : va_D A [(oX4 h0 q0 q1 0), (aI g q0 24 f), (oX6 p0 p1 p2 p3 p4 (nI w)), (aI g p1 24 sd), (aI g p3 6 st)] := hD
  refine lv_aload_n hx hb dX4_begin_5 rfl (lv_at hl 0 rfl) ?_
  refine va_get (v := .ref q0) (T := TX4) (N := 3) hx hb hts inX4 hown hK hP 0 rfl rfl 0 (by decide) f9 (fun _ h9 => h9) rfl dX4_begin_6 ?_
  refine lv_iconst (v := 0) hx hb dX4_begin_9 (by decide) ?_
  refine he_cv (wc := [(aI g q0 24 f)]) (wr := [(oX4 h0 q0 q1 0), (oX6 p0 p1 p2 p3 p4 (nI w)), (aI g p1 24 sd), (aI g p3 6 st)]) (va_runS (As := [.ref q0, .int 0]) (rest := []) ⟨hx, hb, hml, hown, hts⟩ (c_J7_fill_53178 l g q0 24 f 0 (by first | assumption | decide | omega) H.size) (va_cwS 2 hts gX4_begin_J7_fill_53178 rfl rfl rfl (by decide +kernel) ⟨Nat.le_of_ble_eq_true rfl, Nat.le_of_ble_eq_true rfl⟩) (he_preS (wc := [(aI g q0 24 f)]) hK hP hD hS hA hE [1] rfl rfl) rfl rfl hl.1 rfl (lv_room (Nat.le_of_ble_eq_true rfl)) dX4_begin_10 ⟨(Nat.le_of_ble_eq_true rfl), (Nat.le_of_ble_eq_true rfl)⟩) hP hD hS hA [1] [0, 2, 3, 4] rfl rfl rfl (by decide) (fun u_2 H locs h_3 hP hD hS => ?_)
  have hP : va_P g.1 vwCl [(oX4 h0 q0 q1 0), (oX6 p0 p1 p2 p3 p4 (nI w)), (aI g p1 24 sd), (aI g p3 6 st), (aI g q0 24 (flF (fun _ => 0) f 24))] H := hP
  have hD : va_D A [(oX4 h0 q0 q1 0), (oX6 p0 p1 p2 p3 p4 (nI w)), (aI g p1 24 sd), (aI g p3 6 st), (aI g q0 24 (flF (fun _ => 0) f 24))] := hD
  refine lv_aload_n hx hb dX4_begin_13 rfl (lv_at hl 0 rfl) ?_
  refine va_get (v := .ref q0) (T := TX4) (N := 3) hx hb hts inX4 hown hK hP 0 rfl rfl 0 (by decide) f9 (fun _ h9 => h9) rfl dX4_begin_14 ?_
  refine lv_iconst (v := 0) hx hb dX4_begin_17 (by decide) ?_
  refine lv_aload_n hx hb dX4_begin_18 rfl (lv_at hl 1 rfl) ?_
  refine va_get (v := .ref p1) (T := TX6) (N := 5) hx hb hts inX6 hown hK hP 1 rfl rfl 0 (by decide) f28 (fun _ h9 => h9) rfl dX4_begin_19 ?_
  refine lv_iconst (v := 3) hx hb dX4_begin_22 (by decide) ?_
  refine he_iald hx hb hK hP 2 rfl (3) (by decide) (by decide) (by first | decide | assumption) (sd 3) rfl dX4_begin_23 ?_
  refine he_iast hx hb hK hP hD hS 4 rfl (0) (by decide) (by decide) (by first | decide | assumption) dX4_begin_24 (fun H locs hP hD hS => ?_)
  have hP : va_P g.1 vwCl [(oX4 h0 q0 q1 0), (oX6 p0 p1 p2 p3 p4 (nI w)), (aI g p1 24 sd), (aI g p3 6 st), (aI g q0 24 (upd (flF (fun _ => 0) f 24) 0 (sd 3)))] H := hP
  have hD : va_D A [(oX4 h0 q0 q1 0), (oX6 p0 p1 p2 p3 p4 (nI w)), (aI g p1 24 sd), (aI g p3 6 st), (aI g q0 24 (upd (flF (fun _ => 0) f 24) 0 (sd 3)))] := hD
  refine lv_aload_n hx hb dX4_begin_25 rfl (lv_at hl 0 rfl) ?_
  refine va_get (v := .ref q0) (T := TX4) (N := 3) hx hb hts inX4 hown hK hP 0 rfl rfl 0 (by decide) f9 (fun _ h9 => h9) rfl dX4_begin_26 ?_
  refine lv_iconst (v := 3) hx hb dX4_begin_29 (by decide) ?_
  refine lv_aload_n hx hb dX4_begin_30 rfl (lv_at hl 1 rfl) ?_
  refine va_get (v := .ref p1) (T := TX6) (N := 5) hx hb hts inX6 hown hK hP 1 rfl rfl 0 (by decide) f28 (fun _ h9 => h9) rfl dX4_begin_31 ?_
  refine lv_iconst (v := 4) hx hb dX4_begin_34 (by decide) ?_
  refine he_iald hx hb hK hP 2 rfl (4) (by decide) (by decide) (by first | decide | assumption) (sd 4) rfl dX4_begin_35 ?_
  refine he_iast hx hb hK hP hD hS 4 rfl (3) (by decide) (by decide) (by first | decide | assumption) dX4_begin_36 (fun H locs hP hD hS => ?_)
  have hP : va_P g.1 vwCl [(oX4 h0 q0 q1 0), (oX6 p0 p1 p2 p3 p4 (nI w)), (aI g p1 24 sd), (aI g p3 6 st), (aI g q0 24 (upd (upd (flF (fun _ => 0) f 24) 0 (sd 3)) 3 (sd 4)))] H := hP
  have hD : va_D A [(oX4 h0 q0 q1 0), (oX6 p0 p1 p2 p3 p4 (nI w)), (aI g p1 24 sd), (aI g p3 6 st), (aI g q0 24 (upd (upd (flF (fun _ => 0) f 24) 0 (sd 3)) 3 (sd 4)))] := hD
  refine lv_aload_n hx hb dX4_begin_37 rfl (lv_at hl 0 rfl) ?_
  refine va_get (v := .ref q0) (T := TX4) (N := 3) hx hb hts inX4 hown hK hP 0 rfl rfl 0 (by decide) f9 (fun _ h9 => h9) rfl dX4_begin_38 ?_
  refine lv_iconst (v := 1) hx hb dX4_begin_41 (by decide) ?_
  refine lv_aload_n hx hb dX4_begin_42 rfl (lv_at hl 1 rfl) ?_
  refine va_get (v := .ref p1) (T := TX6) (N := 5) hx hb hts inX6 hown hK hP 1 rfl rfl 0 (by decide) f28 (fun _ h9 => h9) rfl dX4_begin_43 ?_
  refine lv_bipush (v := 6) hx hb dX4_begin_46 (by decide) ?_
  refine he_iald hx hb hK hP 2 rfl (6) (by decide) (by decide) (by first | decide | assumption) (sd 6) rfl dX4_begin_48 ?_
  refine he_iast hx hb hK hP hD hS 4 rfl (1) (by decide) (by decide) (by first | decide | assumption) dX4_begin_49 (fun H locs hP hD hS => ?_)
  have hP : va_P g.1 vwCl [(oX4 h0 q0 q1 0), (oX6 p0 p1 p2 p3 p4 (nI w)), (aI g p1 24 sd), (aI g p3 6 st), (aI g q0 24 (upd (upd (upd (flF (fun _ => 0) f 24) 0 (sd 3)) 3 (sd 4)) 1 (sd 6)))] H := hP
  have hD : va_D A [(oX4 h0 q0 q1 0), (oX6 p0 p1 p2 p3 p4 (nI w)), (aI g p1 24 sd), (aI g p3 6 st), (aI g q0 24 (upd (upd (upd (flF (fun _ => 0) f 24) 0 (sd 3)) 3 (sd 4)) 1 (sd 6)))] := hD
  refine lv_aload_n hx hb dX4_begin_50 rfl (lv_at hl 0 rfl) ?_
  refine va_get (v := .ref q0) (T := TX4) (N := 3) hx hb hts inX4 hown hK hP 0 rfl rfl 0 (by decide) f9 (fun _ h9 => h9) rfl dX4_begin_51 ?_
  refine lv_iconst (v := 4) hx hb dX4_begin_54 (by decide) ?_
  refine lv_aload_n hx hb dX4_begin_55 rfl (lv_at hl 1 rfl) ?_
  refine va_get (v := .ref p1) (T := TX6) (N := 5) hx hb hts inX6 hown hK hP 1 rfl rfl 0 (by decide) f28 (fun _ h9 => h9) rfl dX4_begin_56 ?_
  refine lv_bipush (v := 7) hx hb dX4_begin_59 (by decide) ?_
  refine he_iald hx hb hK hP 2 rfl (7) (by decide) (by decide) (by first | decide | assumption) (sd 7) rfl dX4_begin_61 ?_
  refine he_iast hx hb hK hP hD hS 4 rfl (4) (by decide) (by decide) (by first | decide | assumption) dX4_begin_62 (fun H locs hP hD hS => ?_)
  have hP : va_P g.1 vwCl [(oX4 h0 q0 q1 0), (oX6 p0 p1 p2 p3 p4 (nI w)), (aI g p1 24 sd), (aI g p3 6 st), (aI g q0 24 (upd (upd (upd (upd (flF (fun _ => 0) f 24) 0 (sd 3)) 3 (sd 4)) 1 (sd 6)) 4 (sd 7)))] H := hP
  have hD : va_D A [(oX4 h0 q0 q1 0), (oX6 p0 p1 p2 p3 p4 (nI w)), (aI g p1 24 sd), (aI g p3 6 st), (aI g q0 24 (upd (upd (upd (upd (flF (fun _ => 0) f 24) 0 (sd 3)) 3 (sd 4)) 1 (sd 6)) 4 (sd 7)))] := hD
  refine lv_aload_n hx hb dX4_begin_63 rfl (lv_at hl 0 rfl) ?_
  refine va_get (v := .ref q0) (T := TX4) (N := 3) hx hb hts inX4 hown hK hP 0 rfl rfl 0 (by decide) f9 (fun _ h9 => h9) rfl dX4_begin_64 ?_
  refine lv_iconst (v := 2) hx hb dX4_begin_67 (by decide) ?_
  refine lv_aload_n hx hb dX4_begin_68 rfl (lv_at hl 1 rfl) ?_
  refine va_get (v := .ref p1) (T := TX6) (N := 5) hx hb hts inX6 hown hK hP 1 rfl rfl 0 (by decide) f28 (fun _ h9 => h9) rfl dX4_begin_69 ?_
  refine lv_bipush (v := 9) hx hb dX4_begin_72 (by decide) ?_
  refine he_iald hx hb hK hP 2 rfl (9) (by decide) (by decide) (by first | decide | assumption) (sd 9) rfl dX4_begin_74 ?_
  refine he_iast hx hb hK hP hD hS 4 rfl (2) (by decide) (by decide) (by first | decide | assumption) dX4_begin_75 (fun H locs hP hD hS => ?_)
  have hP : va_P g.1 vwCl [(oX4 h0 q0 q1 0), (oX6 p0 p1 p2 p3 p4 (nI w)), (aI g p1 24 sd), (aI g p3 6 st), (aI g q0 24 (upd (upd (upd (upd (upd (flF (fun _ => 0) f 24) 0 (sd 3)) 3 (sd 4)) 1 (sd 6)) 4 (sd 7)) 2 (sd 9)))] H := hP
  have hD : va_D A [(oX4 h0 q0 q1 0), (oX6 p0 p1 p2 p3 p4 (nI w)), (aI g p1 24 sd), (aI g p3 6 st), (aI g q0 24 (upd (upd (upd (upd (upd (flF (fun _ => 0) f 24) 0 (sd 3)) 3 (sd 4)) 1 (sd 6)) 4 (sd 7)) 2 (sd 9)))] := hD
  refine lv_aload_n hx hb dX4_begin_76 rfl (lv_at hl 0 rfl) ?_
  refine va_get (v := .ref q0) (T := TX4) (N := 3) hx hb hts inX4 hown hK hP 0 rfl rfl 0 (by decide) f9 (fun _ h9 => h9) rfl dX4_begin_77 ?_
  refine lv_iconst (v := 5) hx hb dX4_begin_80 (by decide) ?_
  refine lv_aload_n hx hb dX4_begin_81 rfl (lv_at hl 1 rfl) ?_
  refine va_get (v := .ref p1) (T := TX6) (N := 5) hx hb hts inX6 hown hK hP 1 rfl rfl 0 (by decide) f28 (fun _ h9 => h9) rfl dX4_begin_82 ?_
  refine lv_bipush (v := 12) hx hb dX4_begin_85 (by decide) ?_
  refine he_iald hx hb hK hP 2 rfl (12) (by decide) (by decide) (by first | decide | assumption) (sd 12) rfl dX4_begin_87 ?_
  refine he_iast hx hb hK hP hD hS 4 rfl (5) (by decide) (by decide) (by first | decide | assumption) dX4_begin_88 (fun H locs hP hD hS => ?_)
  have hP : va_P g.1 vwCl [(oX4 h0 q0 q1 0), (oX6 p0 p1 p2 p3 p4 (nI w)), (aI g p1 24 sd), (aI g p3 6 st), (aI g q0 24 (upd (upd (upd (upd (upd (upd (flF (fun _ => 0) f 24) 0 (sd 3)) 3 (sd 4)) 1 (sd 6)) 4 (sd 7)) 2 (sd 9)) 5 (sd 12)))] H := hP
  have hD : va_D A [(oX4 h0 q0 q1 0), (oX6 p0 p1 p2 p3 p4 (nI w)), (aI g p1 24 sd), (aI g p3 6 st), (aI g q0 24 (upd (upd (upd (upd (upd (upd (flF (fun _ => 0) f 24) 0 (sd 3)) 3 (sd 4)) 1 (sd 6)) 4 (sd 7)) 2 (sd 9)) 5 (sd 12)))] := hD
  refine lv_aload_n hx hb dX4_begin_89 rfl (lv_at hl 0 rfl) ?_
  refine va_get (v := .ref q0) (T := TX4) (N := 3) hx hb hts inX4 hown hK hP 0 rfl rfl 0 (by decide) f9 (fun _ h9 => h9) rfl dX4_begin_90 ?_
  refine lv_bipush (v := 10) hx hb dX4_begin_93 (by decide) ?_
  refine lv_iconst (v := (-1)) hx hb dX4_begin_95 (by decide) ?_
  refine he_iast hx hb hK hP hD hS 4 rfl (10) (by decide) (by decide) (by first | decide | assumption) dX4_begin_96 (fun H locs hP hD hS => ?_)
  have hP : va_P g.1 vwCl [(oX4 h0 q0 q1 0), (oX6 p0 p1 p2 p3 p4 (nI w)), (aI g p1 24 sd), (aI g p3 6 st), (aI g q0 24 (upd (upd (upd (upd (upd (upd (upd (flF (fun _ => 0) f 24) 0 (sd 3)) 3 (sd 4)) 1 (sd 6)) 4 (sd 7)) 2 (sd 9)) 5 (sd 12)) 10 (-1)))] H := hP
  have hD : va_D A [(oX4 h0 q0 q1 0), (oX6 p0 p1 p2 p3 p4 (nI w)), (aI g p1 24 sd), (aI g p3 6 st), (aI g q0 24 (upd (upd (upd (upd (upd (upd (upd (flF (fun _ => 0) f 24) 0 (sd 3)) 3 (sd 4)) 1 (sd 6)) 4 (sd 7)) 2 (sd 9)) 5 (sd 12)) 10 (-1)))] := hD
  refine lv_iconst (v := 0) hx hb dX4_begin_97 (by decide) ?_
  refine lv_istore_n (lv' := [(2, .int 0), (0, .ref h0), (1, .ref p0)]) hx hb dX4_begin_98 rfl hl (by decide) rfl (fun ls hl => ?_)
  have loop99 : ∀ (n9 : Nat) (j : Nat), w - j < n9 → (j ≤ w) → ∀ (H : Heap) (locs : List Loc) (ls : Array Slot), va_P g.1 vwCl [(oX4 h0 q0 q1 0), (oX6 p0 p1 p2 p3 p4 (nI w)), (aI g p1 24 sd), (aI g p3 6 st), (aI g q0 24 (lwF (upd (upd (upd (upd (upd (upd (upd (flF (fun _ => 0) f 24) 0 (sd 3)) 3 (sd 4)) 1 (sd 6)) 4 (sd 7)) 2 (sd 9)) 5 (sd 12)) 10 (-1)) st j))] H → va_D A [(oX4 h0 q0 q1 0), (oX6 p0 p1 p2 p3 p4 (nI w)), (aI g p1 24 sd), (aI g p3 6 st), (aI g q0 24 (lwF (upd (upd (upd (upd (upd (upd (upd (flF (fun _ => 0) f 24) 0 (sd 3)) 3 (sd 4)) 1 (sd 6)) 4 (sd 7)) 2 (sd 9)) 5 (sd 12)) 10 (-1)) st j))] → va_S A s.heap H locs → lv_has ls 3 [(0, .ref h0), (1, .ref p0), (2, .int (nI j))] → W p l e (he_room 1 23 0 0) s m args below meth c H locs 0 0 Q (F0 m 99 ls []) := by
    intro n9
    induction n9 with
    | zero => intro j hm9; exact absurd hm9 (Nat.not_lt_zero _)
    | succ n9 ih99 =>
      intro j hm9 hj H locs ls hP hD hS hl
      refine lv_iload_n hx hb dX4_begin_99 rfl (lv_at hl 2 rfl) ?_
      refine lv_aload_n hx hb dX4_begin_100 rfl (lv_at hl 1 rfl) ?_
      refine va_get (v := .int (nI w)) (T := TX6) (N := 5) hx hb hts inX6 hown hK hP 1 rfl rfl 4 (by decide) f33 (fun _ h9 => h9) rfl dX4_begin_101 ?_
      refine lv_icmp_ge (tgt := 128) hx hb dX4_begin_104 (by decide) (fun c_4 => ?_) (fun c_4 => ?_)
      · have k_5 : w ≤ j := (he_cle (a := w) (b := j) rfl rfl (by omega) (by omega)).mp c_4
        have hP := hP.sub (ws' := [(oX4 h0 q0 q1 0), (aI g q0 24 (lwF (upd (upd (upd (upd (upd (upd (upd (flF (fun _ => 0) f 24) 0 (sd 3)) 3 (sd 4)) 1 (sd 6)) 4 (sd 7)) 2 (sd 9)) 5 (sd 12)) 10 (-1)) st j)), (oX6 p0 p1 p2 p3 p4 (nI w)), (aI g p1 24 sd), (aI g p3 6 st)]) [0, 4, 1, 2, 3] rfl
        have hD := hD.sub (ws' := [(oX4 h0 q0 q1 0), (aI g q0 24 (lwF (upd (upd (upd (upd (upd (upd (upd (flF (fun _ => 0) f 24) 0 (sd 3)) 3 (sd 4)) 1 (sd 6)) 4 (sd 7)) 2 (sd 9)) 5 (sd 12)) 10 (-1)) st j)), (oX6 p0 p1 p2 p3 p4 (nI w)), (aI g p1 24 sd), (aI g p3 6 st)]) [0, 4, 1, 2, 3] (by decide) rfl
        exact he_rv hQ hx hb hr hlk hP hD hS dX4_begin_128 (Nat.le_of_ble_eq_true rfl) (Nat.le_of_ble_eq_true rfl) (()) (by rw [beginF, show w = j by omega]) (trivial)
      · have k_6 : ¬ (w ≤ j) := fun h9 => c_4 ((he_cle (a := w) (b := j) rfl rfl (by omega) (by omega)).mpr h9)
        refine lv_aload_n hx hb dX4_begin_107 rfl (lv_at hl 0 rfl) ?_
        refine va_get (v := .ref q0) (T := TX4) (N := 3) hx hb hts inX4 hown hK hP 0 rfl rfl 0 (by decide) f9 (fun _ h9 => h9) rfl dX4_begin_108 ?_
        refine lv_bipush (v := 12) hx hb dX4_begin_111 (by decide) ?_
        refine lv_iload_n hx hb dX4_begin_113 rfl (lv_at hl 2 rfl) ?_
        refine lv_iadd hx hb dX4_begin_114 ?_
        refine he_top (nI (12 + j)) (nI_add 12 j) ?_
        refine lv_aload_n hx hb dX4_begin_115 rfl (lv_at hl 1 rfl) ?_
        refine va_get (v := .ref p3) (T := TX6) (N := 5) hx hb hts inX6 hown hK hP 1 rfl rfl 2 (by decide) f36 (fun _ h9 => h9) rfl dX4_begin_116 ?_
        refine lv_iload_n hx hb dX4_begin_119 rfl (lv_at hl 2 rfl) ?_
        refine he_iald hx hb hK hP 3 rfl (j) rfl (by first | assumption | decide | omega) (by first | decide | assumption) (st j) rfl dX4_begin_120 ?_
        refine he_iast hx hb hK hP hD hS 4 rfl (12 + j) rfl (by first | assumption | decide | omega) (by first | decide | assumption) dX4_begin_121 (fun H locs hP hD hS => ?_)
        have hP : va_P g.1 vwCl [(oX4 h0 q0 q1 0), (oX6 p0 p1 p2 p3 p4 (nI w)), (aI g p1 24 sd), (aI g p3 6 st), (aI g q0 24 (upd (lwF (upd (upd (upd (upd (upd (upd (upd (flF (fun _ => 0) f 24) 0 (sd 3)) 3 (sd 4)) 1 (sd 6)) 4 (sd 7)) 2 (sd 9)) 5 (sd 12)) 10 (-1)) st j) (12 + j) (st j)))] H := hP
        have hD : va_D A [(oX4 h0 q0 q1 0), (oX6 p0 p1 p2 p3 p4 (nI w)), (aI g p1 24 sd), (aI g p3 6 st), (aI g q0 24 (upd (lwF (upd (upd (upd (upd (upd (upd (upd (flF (fun _ => 0) f 24) 0 (sd 3)) 3 (sd 4)) 1 (sd 6)) 4 (sd 7)) 2 (sd 9)) 5 (sd 12)) 10 (-1)) st j) (12 + j) (st j)))] := hD
        refine lv_iinc (v := nI (j + 1)) (lv' := [(2, .int (nI (j + 1))), (0, .ref h0), (1, .ref p0)]) hx hb dX4_begin_122 hl (k := 2) rfl (nI_1 j) (by decide) rfl (fun ls hl => ?_)
        refine lv_goto (tgt := 99) hx hb dX4_begin_125 (by decide) ?_
        have hP : va_P g.1 vwCl [(oX4 h0 q0 q1 0), (oX6 p0 p1 p2 p3 p4 (nI w)), (aI g p1 24 sd), (aI g p3 6 st), (aI g q0 24 (lwF (upd (upd (upd (upd (upd (upd (upd (flF (fun _ => 0) f 24) 0 (sd 3)) 3 (sd 4)) 1 (sd 6)) 4 (sd 7)) 2 (sd 9)) 5 (sd 12)) 10 (-1)) st (j + 1)))] H := by rw [← lwF_s]; exact hP
        have hD : va_D A [(oX4 h0 q0 q1 0), (oX6 p0 p1 p2 p3 p4 (nI w)), (aI g p1 24 sd), (aI g p3 6 st), (aI g q0 24 (lwF (upd (upd (upd (upd (upd (upd (upd (flF (fun _ => 0) f 24) 0 (sd 3)) 3 (sd 4)) 1 (sd 6)) 4 (sd 7)) 2 (sd 9)) 5 (sd 12)) 10 (-1)) st (j + 1)))] := by rw [← lwF_s]; exact hD
        exact ih99 (j + 1) (by omega) (by omega) _ _ _ hP hD hS (lv_sub hl [1, 2, 0] rfl)
  have hP : va_P g.1 vwCl [(oX4 h0 q0 q1 0), (oX6 p0 p1 p2 p3 p4 (nI w)), (aI g p1 24 sd), (aI g p3 6 st), (aI g q0 24 (lwF (upd (upd (upd (upd (upd (upd (upd (flF (fun _ => 0) f 24) 0 (sd 3)) 3 (sd 4)) 1 (sd 6)) 4 (sd 7)) 2 (sd 9)) 5 (sd 12)) 10 (-1)) st 0))] H := by rw [lwF_0]; exact hP
  have hD : va_D A [(oX4 h0 q0 q1 0), (oX6 p0 p1 p2 p3 p4 (nI w)), (aI g p1 24 sd), (aI g p3 6 st), (aI g q0 24 (lwF (upd (upd (upd (upd (upd (upd (upd (flF (fun _ => 0) f 24) 0 (sd 3)) 3 (sd 4)) 1 (sd 6)) 4 (sd 7)) 2 (sd 9)) 5 (sd 12)) 10 (-1)) st 0))] := by rw [lwF_0]; exact hD
  exact loop99 ((w - 0) + 1) 0 (Nat.lt_succ_self _) (Nat.zero_le _) _ _ _ hP hD hS (lv_sub hl [1, 2, 0] rfl)
set_option maxHeartbeats 4000000 in
set_option maxRecDepth 100000 in
theorem c_X4_take (l : Launch) (g : he_G) (h0 : Nat) (q0 : Nat) (q1 : Nat) (mo : Int32) (f : Nat → Int32) (h1 : Nat) (r0 : Nat) (r1 : Nat) (mo1 : Int32) (f1 : Nat → Int32)  : he_V l yX4_take wsX4_take 1 18 0 0 g [.ref h0, .ref h1] [(oX4 h0 q0 q1 mo), (aI g q0 24 f), (oX4 h1 r0 r1 mo1), (aI g r0 24 f1)] (fun (u : Unit) => True) (fun (u : Unit) => [(oX4 h0 q0 q1 mo1), (aI g q0 24 (va_cpy f1 f 0 0 24)), (oX4 h1 r0 r1 mo1), (aI g r0 24 f1)]) := by
  refine he_begin (l := l) (g := g) (y := yX4_take) (wl := wsX4_take) (fr := 1) (lo := 18) (mc := 0) (ms := 0) (av := [.ref h0, .ref h1]) (ws := [(oX4 h0 q0 q1 mo), (aI g q0 24 f), (oX4 h1 r0 r1 mo1), (aI g r0 24 f1)]) (cc := cX4_take) (maxL := 2) (ret := none) (fun A => va_Qv (fun (u : Unit) => True) (fun u t => he_post g A ((fun (u : Unit) => [(oX4 h0 q0 q1 mo1), (aI g q0 24 (va_cpy f1 f 0 0 24)), (oX4 h1 r0 r1 mo1), (aI g r0 24 f1)]) u) t) A) (by decide) rfl (Nat.le_of_ble_eq_true rfl) ?_
  intro p e s m args below meth c A ls H locs Q hQ hB
  obtain ⟨hx, hb, hr, hml, hown, hts, hlk, hin, hP, hK, hD, hS, hA, hE, hl⟩ := hB
  have hl : lv_has ls 2 [(0, .ref h0), (1, .ref h1)] := hl
  have f9 := hts (.fieldLink RX4 9 "HiredEnemy$Course" "now" "[I") (iwoX4_take (k := 0) rfl)
  have inX4 : ∀ w ∈ wsX40, w ∈ wsX4_take := innX4_take_X4
  have al39 := hts (.methodLink RX4 39 arraycopyName) (iwoX4_take (k := 1) rfl)
  have an := hts (.native arraycopyName) (iwoX4_take (k := 2) rfl)
  have ast := hts (.static arraycopyName) (iwoX4_take (k := 3) rfl)
  have ai := hts (.initialized "java/lang/System") (iwoX4_take (k := 4) rfl)
  have f18 := hts (.fieldLink RX4 18 "HiredEnemy$Course" "month" "I") (iwoX4_take (k := 5) rfl)
  refine lv_aload_n hx hb dX4_take_0 rfl (lv_at hl 1 rfl) ?_
  refine va_get (v := .ref r0) (T := TX4) (N := 3) hx hb hts inX4 hown hK hP 2 rfl rfl 0 (by decide) f9 (fun _ h9 => h9) rfl dX4_take_1 ?_
  refine lv_iconst (v := 0) hx hb dX4_take_4 (by decide) ?_
  refine lv_aload_n hx hb dX4_take_5 rfl (lv_at hl 0 rfl) ?_
  refine va_get (v := .ref q0) (T := TX4) (N := 3) hx hb hts inX4 hown hK hP 0 rfl rfl 0 (by decide) f9 (fun _ h9 => h9) rfl dX4_take_6 ?_
  refine lv_iconst (v := 0) hx hb dX4_take_9 (by decide) ?_
  refine lv_bipush (v := 24) hx hb dX4_take_10 (by decide) ?_
  refine he_copy hx hb (by rw [hml]; exact hl.1.symm) hown al39 an ast ai hK hP hD hS 3 1 rfl rfl (0) (0) (24) (by decide) (by decide) (by decide) (by first | decide | omega) (by first | decide | omega) (by decide) (by decide) (Nat.le_of_ble_eq_true rfl) (Nat.le_of_ble_eq_true rfl) dX4_take_12 (fun H locs hP hD hS => ?_)
  have hP : va_P g.1 vwCl [(oX4 h0 q0 q1 mo), (aI g q0 24 (va_cpy f1 f 0 0 24)), (oX4 h1 r0 r1 mo1), (aI g r0 24 f1)] H := hP
  have hD : va_D A [(oX4 h0 q0 q1 mo), (aI g q0 24 (va_cpy f1 f 0 0 24)), (oX4 h1 r0 r1 mo1), (aI g r0 24 f1)] := hD
  refine lv_aload_n hx hb dX4_take_15 rfl (lv_at hl 0 rfl) ?_
  refine lv_aload_n hx hb dX4_take_16 rfl (lv_at hl 1 rfl) ?_
  refine va_get (v := .int mo1) (T := TX4) (N := 3) hx hb hts inX4 hown hK hP 2 rfl rfl 2 (by decide) f18 (fun _ h9 => h9) rfl dX4_take_17 ?_
  refine va_put (v := .int mo1) (ty := .int) (T := TX4) (N := 3) hx hb hts inX4 tyX4 tyX4_ok nmX4 hown hK hP hD hS 0 rfl rfl 2 (by decide) f18 (fun _ h9 => h9) rfl (by decide +kernel) rfl rfl (Nat.le_of_ble_eq_true rfl) dX4_take_20 (fun H locs hP hD hS => ?_)
  have hP : va_P g.1 vwCl [(oX4 h0 q0 q1 mo1), (aI g q0 24 (va_cpy f1 f 0 0 24)), (oX4 h1 r0 r1 mo1), (aI g r0 24 f1)] H := hP
  have hD : va_D A [(oX4 h0 q0 q1 mo1), (aI g q0 24 (va_cpy f1 f 0 0 24)), (oX4 h1 r0 r1 mo1), (aI g r0 24 f1)] := hD
  exact he_rv hQ hx hb hr hlk hP hD hS dX4_take_23 (Nat.le_of_ble_eq_true rfl) (Nat.le_of_ble_eq_true rfl) (()) (rfl) (trivial)
set_option maxHeartbeats 4000000 in
set_option maxRecDepth 100000 in
theorem c_X4_mend (l : Launch) (g : he_G) (h0 : Nat) (q0 : Nat) (q1 : Nat) (mo : Int32) (f : Nat → Int32) (p0 : Nat) (p1 : Nat) (p2 : Nat) (p3 : Nat) (p4 : Nat) (w : Nat) (sd : Nat → Int32) (st : Nat → Int32) (me : Nat → Int32) (hw6 : w ≤ 6) : he_V l yX4_mend wsX4_mend 2 37 0 0 g [.ref h0, .ref p0] [(oX4 h0 q0 q1 mo), (aI g q0 24 f), (oX6 p0 p1 p2 p3 p4 (nI w)), (aI g p1 24 sd), (aI g p3 6 st), (aI g p4 6 me)] (fun (u : Unit) => True) (fun (u : Unit) => [(oX4 h0 q0 q1 mo), (aI g q0 24 (mendF sd st me f w)), (oX6 p0 p1 p2 p3 p4 (nI w)), (aI g p1 24 sd), (aI g p3 6 st), (aI g p4 6 me)]) := by
  refine he_begin (l := l) (g := g) (y := yX4_mend) (wl := wsX4_mend) (fr := 2) (lo := 37) (mc := 0) (ms := 0) (av := [.ref h0, .ref p0]) (ws := [(oX4 h0 q0 q1 mo), (aI g q0 24 f), (oX6 p0 p1 p2 p3 p4 (nI w)), (aI g p1 24 sd), (aI g p3 6 st), (aI g p4 6 me)]) (cc := cX4_mend) (maxL := 5) (ret := none) (fun A => va_Qv (fun (u : Unit) => True) (fun u t => he_post g A ((fun (u : Unit) => [(oX4 h0 q0 q1 mo), (aI g q0 24 (mendF sd st me f w)), (oX6 p0 p1 p2 p3 p4 (nI w)), (aI g p1 24 sd), (aI g p3 6 st), (aI g p4 6 me)]) u) t) A) (by decide) rfl (Nat.le_of_ble_eq_true rfl) ?_
  intro p e s m args below meth c A ls H locs Q hQ hB
  obtain ⟨hx, hb, hr, hml, hown, hts, hlk, hin, hP, hK, hD, hS, hA, hE, hl⟩ := hB
  have hl : lv_has ls 5 [(0, .ref h0), (1, .ref p0)] := hl
  have f28 := hts (.fieldLink RX4 28 "HiredEnemy$Plan" "said" "[I") (iwoX4_mend (k := 0) rfl)
  have inX6 : ∀ w ∈ wsX60, w ∈ wsX4_mend := innX4_mend_X6
  have f33 := hts (.fieldLink RX4 33 "HiredEnemy$Plan" "walls" "I") (iwoX4_mend (k := 1) rfl)
  have f97 := hts (.fieldLink RX4 97 "HiredEnemy$Plan" "mended" "[I") (iwoX4_mend (k := 2) rfl)
  have f36 := hts (.fieldLink RX4 36 "HiredEnemy$Plan" "strength" "[I") (iwoX4_mend (k := 3) rfl)
  have f9 := hts (.fieldLink RX4 9 "HiredEnemy$Course" "now" "[I") (iwoX4_mend (k := 4) rfl)
  have inX4 : ∀ w ∈ wsX40, w ∈ wsX4_mend := innX4_mend_X4
  have ml81 := hts (.methodLink RX4 81 Lib.Math.min.name) (iwoX4_mend (k := 5) rfl)
  have msmin := hts (.static Lib.Math.min.name) (iwoX4_mend (k := 6) rfl)
  have mi := hts (.initialized "java/lang/Math") (iwoX4_mend (k := 7) rfl)
  have mcmin := hts (.code Lib.Math.min.name Lib.Math.min.code 2 (some .int)) (by decide +kernel)
  refine lv_aload_n hx hb dX4_mend_0 rfl (lv_at hl 1 rfl) ?_
  refine va_get (v := .ref p1) (T := TX6) (N := 5) hx hb hts inX6 hown hK hP 2 rfl rfl 0 (by decide) f28 (fun _ h9 => h9) rfl dX4_mend_1 ?_
  refine lv_bipush (v := 18) hx hb dX4_mend_4 (by decide) ?_
  refine he_iald hx hb hK hP 3 rfl (18) (by decide) (by decide) (by first | decide | assumption) (sd 18) rfl dX4_mend_6 ?_
  refine lv_istore_n (lv' := [(2, .int (sd 18)), (0, .ref h0), (1, .ref p0)]) hx hb dX4_mend_7 rfl hl (by decide) rfl (fun ls hl => ?_)
  refine lv_iconst (v := 0) hx hb dX4_mend_8 (by decide) ?_
  refine lv_istore_n (lv' := [(3, .int 0), (2, .int (sd 18)), (0, .ref h0), (1, .ref p0)]) hx hb dX4_mend_9 rfl hl (by decide) rfl (fun ls hl => ?_)
  have loop10 : ∀ (n9 : Nat) (j : Nat), w - j < n9 → (j ≤ w) → ∀ (H : Heap) (locs : List Loc) (ls : Array Slot), va_P g.1 vwCl [(oX4 h0 q0 q1 mo), (aI g q0 24 (mendF sd st me f j)), (oX6 p0 p1 p2 p3 p4 (nI w)), (aI g p1 24 sd), (aI g p3 6 st), (aI g p4 6 me)] H → va_D A [(oX4 h0 q0 q1 mo), (aI g q0 24 (mendF sd st me f j)), (oX6 p0 p1 p2 p3 p4 (nI w)), (aI g p1 24 sd), (aI g p3 6 st), (aI g p4 6 me)] → va_S A s.heap H locs → lv_has ls 5 [(0, .ref h0), (1, .ref p0), (2, .int (sd 18)), (3, .int (nI j))] → W p l e (he_room 2 37 0 0) s m args below meth c H locs 0 0 Q (F0 m 10 ls []) := by
    intro n9
    induction n9 with
    | zero => intro j hm9; exact absurd hm9 (Nat.not_lt_zero _)
    | succ n9 ih10 =>
      intro j hm9 hj H locs ls hP hD hS hl
      refine lv_iload_n hx hb dX4_mend_10 rfl (lv_at hl 3 rfl) ?_
      refine lv_aload_n hx hb dX4_mend_11 rfl (lv_at hl 1 rfl) ?_
      refine va_get (v := .int (nI w)) (T := TX6) (N := 5) hx hb hts inX6 hown hK hP 2 rfl rfl 4 (by decide) f33 (fun _ h9 => h9) rfl dX4_mend_12 ?_
      refine lv_icmp_ge (tgt := 94) hx hb dX4_mend_15 (by decide) (fun c_1 => ?_) (fun c_1 => ?_)
      · have k_2 : w ≤ j := (he_cle (a := w) (b := j) rfl rfl (by omega) (by omega)).mp c_1
        exact he_rv hQ hx hb hr hlk hP hD hS dX4_mend_94 (Nat.le_of_ble_eq_true rfl) (Nat.le_of_ble_eq_true rfl) (()) (by rw [show w = j by omega]) (trivial)
      · have k_3 : ¬ (w ≤ j) := fun h9 => c_1 ((he_cle (a := w) (b := j) rfl rfl (by omega) (by omega)).mpr h9)
        refine lv_aload_n hx hb dX4_mend_18 rfl (lv_at hl 1 rfl) ?_
        refine va_get (v := .ref p4) (T := TX6) (N := 5) hx hb hts inX6 hown hK hP 2 rfl rfl 3 (by decide) f97 (fun _ h9 => h9) rfl dX4_mend_19 ?_
        refine lv_iload_n hx hb dX4_mend_22 rfl (lv_at hl 3 rfl) ?_
        refine he_iald hx hb hK hP 5 rfl (j) rfl (by first | assumption | decide | omega) (by first | decide | assumption) (me j) rfl dX4_mend_23 ?_
        refine lv_aload_n hx hb dX4_mend_24 rfl (lv_at hl 1 rfl) ?_
        refine va_get (v := .ref p3) (T := TX6) (N := 5) hx hb hts inX6 hown hK hP 2 rfl rfl 2 (by decide) f36 (fun _ h9 => h9) rfl dX4_mend_25 ?_
        refine lv_iload_n hx hb dX4_mend_28 rfl (lv_at hl 3 rfl) ?_
        refine he_iald hx hb hK hP 4 rfl (j) rfl (by first | assumption | decide | omega) (by first | decide | assumption) (st j) rfl dX4_mend_29 ?_
        refine lv_aload_n hx hb dX4_mend_30 rfl (lv_at hl 0 rfl) ?_
        refine va_get (v := .ref q0) (T := TX4) (N := 3) hx hb hts inX4 hown hK hP 0 rfl rfl 0 (by decide) f9 (fun _ h9 => h9) rfl dX4_mend_31 ?_
        refine lv_bipush (v := 12) hx hb dX4_mend_34 (by decide) ?_
        refine lv_iload_n hx hb dX4_mend_36 rfl (lv_at hl 3 rfl) ?_
        refine lv_iadd hx hb dX4_mend_37 ?_
        refine he_top (nI (12 + j)) (nI_add 12 j) ?_
        refine he_iald hx hb hK hP 1 rfl (12 + j) rfl (by first | assumption | decide | omega) (by first | decide | assumption) ((mendF sd st me f j) (12 + j)) rfl dX4_mend_38 ?_
        refine lv_isub hx hb dX4_mend_39 ?_
        refine va_mmin hx hb (by rw [hml]; exact hl.1.symm) hown ml81 msmin mi mcmin (by decide) (Nat.le_of_ble_eq_true rfl) (Nat.le_of_ble_eq_true rfl) (Nat.le_of_ble_eq_true rfl) dX4_mend_40 ?_
        refine he_top (mdA st me (mendF sd st me f j) j) rfl ?_
        refine lv_istore (lv' := [(4, .int (mdA st me (mendF sd st me f j) j)), (0, .ref h0), (1, .ref p0), (2, .int (sd 18)), (3, .int (nI j))]) hx hb dX4_mend_43 hl (by decide) rfl (fun ls hl => ?_)
        refine lv_iload_n hx hb dX4_mend_45 rfl (lv_at hl 3 rfl) ?_
        refine lv_if_le (tgt := 64) hx hb dX4_mend_46 (by decide) (fun c_4 => ?_) (fun c_4 => ?_)
        · refine lv_aload_n hx hb dX4_mend_64 rfl (lv_at hl 1 rfl) ?_
          refine va_get (v := .ref q0) (T := TX4) (N := 3) hx hb hts inX4 hown hK hP 0 rfl rfl 0 (by decide) f9 (fun _ h9 => h9) rfl dX4_mend_65 ?_
          refine lv_bipush (v := 12) hx hb dX4_mend_68 (by decide) ?_
          refine lv_iload_n hx hb dX4_mend_70 rfl (lv_at hl 4 rfl) ?_
          refine lv_iadd hx hb dX4_mend_71 ?_
          refine he_top (nI (12 + j)) (nI_add 12 j) ?_
          refine lv_dup2_11 hx hb dX4_mend_72 rfl rfl ?_
          refine he_iald hx hb hK hP 1 rfl (12 + j) rfl (by first | assumption | decide | omega) (by first | decide | assumption) ((mendF sd st me f j) (12 + j)) rfl dX4_mend_73 ?_
          refine lv_iload hx hb dX4_mend_74 (lv_at hl 0 rfl) ?_
          refine lv_iadd hx hb dX4_mend_76 ?_
          refine he_iast hx hb hK hP hD hS 1 rfl (12 + j) rfl (by first | assumption | decide | omega) (by first | decide | assumption) dX4_mend_77 (fun H locs hP hD hS => ?_)
          have hP : va_P g.1 vwCl [(oX4 h0 q0 q1 mo), (aI g q0 24 (upd (mendF sd st me f j) (12 + j) (((mendF sd st me f j) (12 + j)) + (mdA st me (mendF sd st me f j) j)))), (oX6 p0 p1 p2 p3 p4 (nI w)), (aI g p1 24 sd), (aI g p3 6 st), (aI g p4 6 me)] H := hP
          have hD : va_D A [(oX4 h0 q0 q1 mo), (aI g q0 24 (upd (mendF sd st me f j) (12 + j) (((mendF sd st me f j) (12 + j)) + (mdA st me (mendF sd st me f j) j)))), (oX6 p0 p1 p2 p3 p4 (nI w)), (aI g p1 24 sd), (aI g p3 6 st), (aI g p4 6 me)] := hD
          refine lv_aload_n hx hb dX4_mend_78 rfl (lv_at hl 1 rfl) ?_
          refine lv_iconst (v := 0) hx hb dX4_mend_79 (by decide) ?_
          refine lv_iconst (v := 2) hx hb dX4_mend_80 (by decide) ?_
          refine lv_iload hx hb dX4_mend_81 (lv_at hl 0 rfl) ?_
          refine lv_iload_n hx hb dX4_mend_83 rfl (lv_at hl 3 rfl) ?_
          refine lv_imul hx hb dX4_mend_84 ?_
          refine he_cv (wc := [(oX4 h0 q0 q1 mo), (aI g q0 24 (upd (mendF sd st me f j) (12 + j) (((mendF sd st me f j) (12 + j)) + (mdA st me (mendF sd st me f j) j))))]) (wr := [(oX6 p0 p1 p2 p3 p4 (nI w)), (aI g p1 24 sd), (aI g p3 6 st), (aI g p4 6 me)]) (va_runV (As := [.int 0, .int 2, .int ((mdA st me (mendF sd st me f j) j) * (sd 18))]) (rest := []) ⟨hx, hb, hml, hown, hts⟩ (c_X4_move l g h0 q0 q1 mo (upd (mendF sd st me f j) (12 + j) (((mendF sd st me f j) (12 + j)) + (mdA st me (mendF sd st me f j) j))) 0 2 ((mdA st me (mendF sd st me f j) j) * (sd 18)) (by first | assumption | decide | omega) (by first | assumption | decide | omega) H.size) (cwV 3 hts gX4_mend_X4_move rfl rfl rfl (by decide +kernel) ⟨Nat.le_of_ble_eq_true rfl, Nat.le_of_ble_eq_true rfl⟩) (he_preV (wc := [(oX4 h0 q0 q1 mo), (aI g q0 24 (upd (mendF sd st me f j) (12 + j) (((mendF sd st me f j) (12 + j)) + (mdA st me (mendF sd st me f j) j))))]) hK hP hD hS hA hE [0, 1] rfl rfl 0 rfl rfl) rfl rfl hl.1 rfl (lv_room (Nat.le_of_ble_eq_true rfl)) dX4_mend_85 ⟨(Nat.le_of_ble_eq_true rfl), (Nat.le_of_ble_eq_true rfl)⟩) hP hD hS hA [0, 1] [2, 3, 4, 5] rfl rfl rfl (by decide) (fun u_6 H locs h_7 hP hD hS => ?_)
          have hP : va_P g.1 vwCl [(oX6 p0 p1 p2 p3 p4 (nI w)), (aI g p1 24 sd), (aI g p3 6 st), (aI g p4 6 me), (oX4 h0 q0 q1 mo), (aI g q0 24 (mvF (upd (mendF sd st me f j) (12 + j) (((mendF sd st me f j) (12 + j)) + (mdA st me (mendF sd st me f j) j))) 0 2 ((mdA st me (mendF sd st me f j) j) * (sd 18))))] H := hP
          have hD : va_D A [(oX6 p0 p1 p2 p3 p4 (nI w)), (aI g p1 24 sd), (aI g p3 6 st), (aI g p4 6 me), (oX4 h0 q0 q1 mo), (aI g q0 24 (mvF (upd (mendF sd st me f j) (12 + j) (((mendF sd st me f j) (12 + j)) + (mdA st me (mendF sd st me f j) j))) 0 2 ((mdA st me (mendF sd st me f j) j) * (sd 18))))] := hD
          refine lv_iinc (v := nI (j + 1)) (lv' := [(3, .int (nI (j + 1))), (4, .int (mdA st me (mendF sd st me f j) j)), (0, .ref h0), (1, .ref p0), (2, .int (sd 18))]) hx hb dX4_mend_88 hl (k := 4) rfl (nI_1 j) (by decide) rfl (fun ls hl => ?_)
          refine lv_goto (tgt := 10) hx hb dX4_mend_91 (by decide) ?_
          have hP : va_P g.1 vwCl [(oX6 p0 p1 p2 p3 p4 (nI w)), (aI g p1 24 sd), (aI g p3 6 st), (aI g p4 6 me), (oX4 h0 q0 q1 mo), (aI g q0 24 (mendF sd st me f (j + 1)))] H := by rw [mendF_s, mendS, mdB_le c_4]; exact hP
          have hD : va_D A [(oX6 p0 p1 p2 p3 p4 (nI w)), (aI g p1 24 sd), (aI g p3 6 st), (aI g p4 6 me), (oX4 h0 q0 q1 mo), (aI g q0 24 (mendF sd st me f (j + 1)))] := by rw [mendF_s, mendS, mdB_le c_4]; exact hD
          exact ih10 (j + 1) (by omega) (by omega) _ _ _ (hP.sub [4, 5, 0, 1, 2, 3] rfl) (hD.sub [4, 5, 0, 1, 2, 3] (by decide) rfl) hS (lv_sub hl [2, 3, 4, 0] rfl)
        · refine lv_iload hx hb dX4_mend_49 (lv_at hl 0 rfl) ?_
          refine lv_aload_n hx hb dX4_mend_51 rfl (lv_at hl 1 rfl) ?_
          refine va_get (v := .ref q0) (T := TX4) (N := 3) hx hb hts inX4 hown hK hP 0 rfl rfl 0 (by decide) f9 (fun _ h9 => h9) rfl dX4_mend_52 ?_
          refine lv_iconst (v := 0) hx hb dX4_mend_55 (by decide) ?_
          refine he_iald hx hb hK hP 1 rfl (0) (by decide) (by decide) (by first | decide | assumption) ((mendF sd st me f j) 0) rfl dX4_mend_56 ?_
          refine lv_iload_n hx hb dX4_mend_57 rfl (lv_at hl 3 rfl) ?_
          refine lv_idiv hx hb dX4_mend_58 (fun h9 => c_4 (by rw [h9]; decide)) ?_
          refine va_mmin hx hb (by rw [hml]; exact hl.1.symm) hown ml81 msmin mi mcmin (by decide) (Nat.le_of_ble_eq_true rfl) (Nat.le_of_ble_eq_true rfl) (Nat.le_of_ble_eq_true rfl) dX4_mend_59 ?_
          refine lv_istore (lv' := [(4, .int (if (((mendF sd st me f j) 0) / (sd 18)) < (mdA st me (mendF sd st me f j) j) then ((mendF sd st me f j) 0) / (sd 18) else mdA st me (mendF sd st me f j) j)), (0, .ref h0), (1, .ref p0), (2, .int (sd 18)), (3, .int (nI j))]) hx hb dX4_mend_62 hl (by decide) rfl (fun ls hl => ?_)
          refine lv_aload_n hx hb dX4_mend_64 rfl (lv_at hl 1 rfl) ?_
          refine va_get (v := .ref q0) (T := TX4) (N := 3) hx hb hts inX4 hown hK hP 0 rfl rfl 0 (by decide) f9 (fun _ h9 => h9) rfl dX4_mend_65 ?_
          refine lv_bipush (v := 12) hx hb dX4_mend_68 (by decide) ?_
          refine lv_iload_n hx hb dX4_mend_70 rfl (lv_at hl 4 rfl) ?_
          refine lv_iadd hx hb dX4_mend_71 ?_
          refine he_top (nI (12 + j)) (nI_add 12 j) ?_
          refine lv_dup2_11 hx hb dX4_mend_72 rfl rfl ?_
          refine he_iald hx hb hK hP 1 rfl (12 + j) rfl (by first | assumption | decide | omega) (by first | decide | assumption) ((mendF sd st me f j) (12 + j)) rfl dX4_mend_73 ?_
          refine lv_iload hx hb dX4_mend_74 (lv_at hl 0 rfl) ?_
          refine lv_iadd hx hb dX4_mend_76 ?_
          refine he_iast hx hb hK hP hD hS 1 rfl (12 + j) rfl (by first | assumption | decide | omega) (by first | decide | assumption) dX4_mend_77 (fun H locs hP hD hS => ?_)
          have hP : va_P g.1 vwCl [(oX4 h0 q0 q1 mo), (aI g q0 24 (upd (mendF sd st me f j) (12 + j) (((mendF sd st me f j) (12 + j)) + (if (((mendF sd st me f j) 0) / (sd 18)) < (mdA st me (mendF sd st me f j) j) then ((mendF sd st me f j) 0) / (sd 18) else mdA st me (mendF sd st me f j) j)))), (oX6 p0 p1 p2 p3 p4 (nI w)), (aI g p1 24 sd), (aI g p3 6 st), (aI g p4 6 me)] H := hP
          have hD : va_D A [(oX4 h0 q0 q1 mo), (aI g q0 24 (upd (mendF sd st me f j) (12 + j) (((mendF sd st me f j) (12 + j)) + (if (((mendF sd st me f j) 0) / (sd 18)) < (mdA st me (mendF sd st me f j) j) then ((mendF sd st me f j) 0) / (sd 18) else mdA st me (mendF sd st me f j) j)))), (oX6 p0 p1 p2 p3 p4 (nI w)), (aI g p1 24 sd), (aI g p3 6 st), (aI g p4 6 me)] := hD
          refine lv_aload_n hx hb dX4_mend_78 rfl (lv_at hl 1 rfl) ?_
          refine lv_iconst (v := 0) hx hb dX4_mend_79 (by decide) ?_
          refine lv_iconst (v := 2) hx hb dX4_mend_80 (by decide) ?_
          refine lv_iload hx hb dX4_mend_81 (lv_at hl 0 rfl) ?_
          refine lv_iload_n hx hb dX4_mend_83 rfl (lv_at hl 3 rfl) ?_
          refine lv_imul hx hb dX4_mend_84 ?_
          refine he_cv (wc := [(oX4 h0 q0 q1 mo), (aI g q0 24 (upd (mendF sd st me f j) (12 + j) (((mendF sd st me f j) (12 + j)) + (if (((mendF sd st me f j) 0) / (sd 18)) < (mdA st me (mendF sd st me f j) j) then ((mendF sd st me f j) 0) / (sd 18) else mdA st me (mendF sd st me f j) j))))]) (wr := [(oX6 p0 p1 p2 p3 p4 (nI w)), (aI g p1 24 sd), (aI g p3 6 st), (aI g p4 6 me)]) (va_runV (As := [.int 0, .int 2, .int ((if (((mendF sd st me f j) 0) / (sd 18)) < (mdA st me (mendF sd st me f j) j) then ((mendF sd st me f j) 0) / (sd 18) else mdA st me (mendF sd st me f j) j) * (sd 18))]) (rest := []) ⟨hx, hb, hml, hown, hts⟩ (c_X4_move l g h0 q0 q1 mo (upd (mendF sd st me f j) (12 + j) (((mendF sd st me f j) (12 + j)) + (if (((mendF sd st me f j) 0) / (sd 18)) < (mdA st me (mendF sd st me f j) j) then ((mendF sd st me f j) 0) / (sd 18) else mdA st me (mendF sd st me f j) j))) 0 2 ((if (((mendF sd st me f j) 0) / (sd 18)) < (mdA st me (mendF sd st me f j) j) then ((mendF sd st me f j) 0) / (sd 18) else mdA st me (mendF sd st me f j) j) * (sd 18)) (by first | assumption | decide | omega) (by first | assumption | decide | omega) H.size) (cwV 3 hts gX4_mend_X4_move rfl rfl rfl (by decide +kernel) ⟨Nat.le_of_ble_eq_true rfl, Nat.le_of_ble_eq_true rfl⟩) (he_preV (wc := [(oX4 h0 q0 q1 mo), (aI g q0 24 (upd (mendF sd st me f j) (12 + j) (((mendF sd st me f j) (12 + j)) + (if (((mendF sd st me f j) 0) / (sd 18)) < (mdA st me (mendF sd st me f j) j) then ((mendF sd st me f j) 0) / (sd 18) else mdA st me (mendF sd st me f j) j))))]) hK hP hD hS hA hE [0, 1] rfl rfl 0 rfl rfl) rfl rfl hl.1 rfl (lv_room (Nat.le_of_ble_eq_true rfl)) dX4_mend_85 ⟨(Nat.le_of_ble_eq_true rfl), (Nat.le_of_ble_eq_true rfl)⟩) hP hD hS hA [0, 1] [2, 3, 4, 5] rfl rfl rfl (by decide) (fun u_9 H locs h_10 hP hD hS => ?_)
          have hP : va_P g.1 vwCl [(oX6 p0 p1 p2 p3 p4 (nI w)), (aI g p1 24 sd), (aI g p3 6 st), (aI g p4 6 me), (oX4 h0 q0 q1 mo), (aI g q0 24 (mvF (upd (mendF sd st me f j) (12 + j) (((mendF sd st me f j) (12 + j)) + (if (((mendF sd st me f j) 0) / (sd 18)) < (mdA st me (mendF sd st me f j) j) then ((mendF sd st me f j) 0) / (sd 18) else mdA st me (mendF sd st me f j) j))) 0 2 ((if (((mendF sd st me f j) 0) / (sd 18)) < (mdA st me (mendF sd st me f j) j) then ((mendF sd st me f j) 0) / (sd 18) else mdA st me (mendF sd st me f j) j) * (sd 18))))] H := hP
          have hD : va_D A [(oX6 p0 p1 p2 p3 p4 (nI w)), (aI g p1 24 sd), (aI g p3 6 st), (aI g p4 6 me), (oX4 h0 q0 q1 mo), (aI g q0 24 (mvF (upd (mendF sd st me f j) (12 + j) (((mendF sd st me f j) (12 + j)) + (if (((mendF sd st me f j) 0) / (sd 18)) < (mdA st me (mendF sd st me f j) j) then ((mendF sd st me f j) 0) / (sd 18) else mdA st me (mendF sd st me f j) j))) 0 2 ((if (((mendF sd st me f j) 0) / (sd 18)) < (mdA st me (mendF sd st me f j) j) then ((mendF sd st me f j) 0) / (sd 18) else mdA st me (mendF sd st me f j) j) * (sd 18))))] := hD
          refine lv_iinc (v := nI (j + 1)) (lv' := [(3, .int (nI (j + 1))), (4, .int (if (((mendF sd st me f j) 0) / (sd 18)) < (mdA st me (mendF sd st me f j) j) then ((mendF sd st me f j) 0) / (sd 18) else mdA st me (mendF sd st me f j) j)), (0, .ref h0), (1, .ref p0), (2, .int (sd 18))]) hx hb dX4_mend_88 hl (k := 4) rfl (nI_1 j) (by decide) rfl (fun ls hl => ?_)
          refine lv_goto (tgt := 10) hx hb dX4_mend_91 (by decide) ?_
          have hP : va_P g.1 vwCl [(oX6 p0 p1 p2 p3 p4 (nI w)), (aI g p1 24 sd), (aI g p3 6 st), (aI g p4 6 me), (oX4 h0 q0 q1 mo), (aI g q0 24 (mendF sd st me f (j + 1)))] H := by rw [mendF_s, mendS, mdB_gt c_4]; exact hP
          have hD : va_D A [(oX6 p0 p1 p2 p3 p4 (nI w)), (aI g p1 24 sd), (aI g p3 6 st), (aI g p4 6 me), (oX4 h0 q0 q1 mo), (aI g q0 24 (mendF sd st me f (j + 1)))] := by rw [mendF_s, mendS, mdB_gt c_4]; exact hD
          exact ih10 (j + 1) (by omega) (by omega) _ _ _ (hP.sub [4, 5, 0, 1, 2, 3] rfl) (hD.sub [4, 5, 0, 1, 2, 3] (by decide) rfl) hS (lv_sub hl [2, 3, 4, 0] rfl)
  have hP : va_P g.1 vwCl [(oX4 h0 q0 q1 mo), (aI g q0 24 (mendF sd st me f 0)), (oX6 p0 p1 p2 p3 p4 (nI w)), (aI g p1 24 sd), (aI g p3 6 st), (aI g p4 6 me)] H := by rw [mendF]; exact hP
  have hD : va_D A [(oX4 h0 q0 q1 mo), (aI g q0 24 (mendF sd st me f 0)), (oX6 p0 p1 p2 p3 p4 (nI w)), (aI g p1 24 sd), (aI g p3 6 st), (aI g p4 6 me)] := by rw [mendF]; exact hD
  exact loop10 ((w - 0) + 1) 0 (Nat.lt_succ_self _) (Nat.zero_le _) _ _ _ hP hD hS (lv_sub hl [2, 3, 1, 0] rfl)
set_option maxHeartbeats 4000000 in
set_option maxRecDepth 100000 in
theorem c_X6_wanted (l : Launch) (g : he_G) (p0 : Nat) (p1 : Nat) (p2 : Nat) (p3 : Nat) (p4 : Nat) (w : Int32) (sd : Nat → Int32) (x : Int32) (k : Int32)  : he_I l yX6_wanted wsX6_wanted 0 0 0 0 g [.ref p0, .int x, .int k] [(oX6 p0 p1 p2 p3 p4 w), (aI g p1 24 sd)] (fun (r : Int32) (u : Unit) => r = wantF sd x k) (fun (u : Unit) => [(oX6 p0 p1 p2 p3 p4 w), (aI g p1 24 sd)]) := by
  refine he_begin (l := l) (g := g) (y := yX6_wanted) (wl := wsX6_wanted) (fr := 0) (lo := 0) (mc := 0) (ms := 0) (av := [.ref p0, .int x, .int k]) (ws := [(oX6 p0 p1 p2 p3 p4 w), (aI g p1 24 sd)]) (cc := cX6_wanted) (maxL := 3) (ret := (some .int)) (fun A => va_Qi (fun (r : Int32) (u : Unit) => r = wantF sd x k) (fun u t => he_post g A ((fun (u : Unit) => [(oX6 p0 p1 p2 p3 p4 w), (aI g p1 24 sd)]) u) t) A) (by decide) rfl (Nat.le_of_ble_eq_true rfl) ?_
  intro p e s m args below meth c A ls H locs Q hQ hB
  obtain ⟨hx, hb, hr, hml, hown, hts, hlk, hin, hP, hK, hD, hS, hA, hE, hl⟩ := hB
  have hl : lv_has ls 3 [(0, .ref p0), (1, .int x), (2, .int k)] := hl
  have f15 := hts (.fieldLink RX6 15 "HiredEnemy$Plan" "said" "[I") (iwoX6_wanted (k := 0) rfl)
  have inX6 : ∀ w ∈ wsX60, w ∈ wsX6_wanted := innX6_wanted_X6
  refine lv_aload_n hx hb dX6_wanted_0 rfl (lv_at hl 0 rfl) ?_
  refine va_get (v := .ref p1) (T := TX6) (N := 5) hx hb hts inX6 hown hK hP 0 rfl rfl 0 (by decide) f15 (fun _ h9 => h9) rfl dX6_wanted_1 ?_
  refine lv_bipush (v := 21) hx hb dX6_wanted_4 (by decide) ?_
  refine he_iald hx hb hK hP 1 rfl (21) (by decide) (by decide) (by first | decide | assumption) (sd 21) rfl dX6_wanted_6 ?_
  refine lv_aload_n hx hb dX6_wanted_7 rfl (lv_at hl 0 rfl) ?_
  refine va_get (v := .ref p1) (T := TX6) (N := 5) hx hb hts inX6 hown hK hP 0 rfl rfl 0 (by decide) f15 (fun _ h9 => h9) rfl dX6_wanted_8 ?_
  refine lv_bipush (v := 22) hx hb dX6_wanted_11 (by decide) ?_
  refine he_iald hx hb hK hP 1 rfl (22) (by decide) (by decide) (by first | decide | assumption) (sd 22) rfl dX6_wanted_13 ?_
  refine lv_iload_n hx hb dX6_wanted_14 rfl (lv_at hl 2 rfl) ?_
  refine lv_imul hx hb dX6_wanted_15 ?_
  refine lv_iadd hx hb dX6_wanted_16 ?_
  refine lv_aload_n hx hb dX6_wanted_17 rfl (lv_at hl 0 rfl) ?_
  refine va_get (v := .ref p1) (T := TX6) (N := 5) hx hb hts inX6 hown hK hP 0 rfl rfl 0 (by decide) f15 (fun _ h9 => h9) rfl dX6_wanted_18 ?_
  refine lv_bipush (v := 21) hx hb dX6_wanted_21 (by decide) ?_
  refine he_iald hx hb hK hP 1 rfl (21) (by decide) (by decide) (by first | decide | assumption) (sd 21) rfl dX6_wanted_23 ?_
  refine lv_bipush (v := 9) hx hb dX6_wanted_24 (by decide) ?_
  refine lv_iload_n hx hb dX6_wanted_26 rfl (lv_at hl 1 rfl) ?_
  refine lv_isub hx hb dX6_wanted_27 ?_
  refine lv_imul hx hb dX6_wanted_28 ?_
  refine lv_iadd hx hb dX6_wanted_29 ?_
  exact he_ri hQ hx hb hr hlk hP hD hS dX6_wanted_30 (Nat.le_of_ble_eq_true rfl) (Nat.le_of_ble_eq_true rfl) (()) (rfl) (rfl)
set_option maxHeartbeats 4000000 in
set_option maxRecDepth 100000 in
theorem c_X6_fearAt (l : Launch) (g : he_G) (p0 : Nat) (p1 : Nat) (p2 : Nat) (p3 : Nat) (p4 : Nat) (w : Int32) (fn : Nat → Int32) (x : Int32)  : he_I l yX6_fearAt wsX6_fearAt 1 22 0 0 g [.ref p0, .int x] [(oX6 p0 p1 p2 p3 p4 w), (aI g p2 10 fn)] (fun (r : Int32) (u : Unit) => r = faF fn x) (fun (u : Unit) => [(oX6 p0 p1 p2 p3 p4 w), (aI g p2 10 fn)]) := by
  refine he_begin (l := l) (g := g) (y := yX6_fearAt) (wl := wsX6_fearAt) (fr := 1) (lo := 22) (mc := 0) (ms := 0) (av := [.ref p0, .int x]) (ws := [(oX6 p0 p1 p2 p3 p4 w), (aI g p2 10 fn)]) (cc := cX6_fearAt) (maxL := 2) (ret := (some .int)) (fun A => va_Qi (fun (r : Int32) (u : Unit) => r = faF fn x) (fun u t => he_post g A ((fun (u : Unit) => [(oX6 p0 p1 p2 p3 p4 w), (aI g p2 10 fn)]) u) t) A) (by decide) rfl (Nat.le_of_ble_eq_true rfl) ?_
  intro p e s m args below meth c A ls H locs Q hQ hB
  obtain ⟨hx, hb, hr, hml, hown, hts, hlk, hin, hP, hK, hD, hS, hA, hE, hl⟩ := hB
  have hl : lv_has ls 2 [(0, .ref p0), (1, .int x)] := hl
  have nl39 := hE.nest (RX6, 39, yX10_within) (by decide +kernel)
  have iniX10 := hts (.initialized RX10) (iwoX6_fearAt (k := 2) rfl)
  have st_yX10_within := hts (.static yX10_within) (iwoX6_fearAt (k := 1) rfl)
  have f18 := hts (.fieldLink RX6 18 "HiredEnemy$Plan" "fearByNear" "[I") (iwoX6_fearAt (k := 0) rfl)
  have inX6 : ∀ w ∈ wsX60, w ∈ wsX6_fearAt := innX6_fearAt_X6
  refine lv_iload_n hx hb dX6_fearAt_0 rfl (lv_at hl 1 rfl) ?_
  refine lv_iconst (v := 0) hx hb dX6_fearAt_1 (by decide) ?_
  refine lv_bipush (v := 9) hx hb dX6_fearAt_2 (by decide) ?_
  refine he_ci (wc := []) (wr := [(oX6 p0 p1 p2 p3 p4 w), (aI g p2 10 fn)]) (va_runSN (As := [.int x, .int 0, .int 9]) (rest := []) ⟨hx, hb, hml, hown, hts⟩ (c_X10_within l g x 0 9 H.size) ⟨(va_cnB 3 hts gX6_fearAt_X10_within_n39 rfl rfl rfl nl39 iniX10 (by decide +kernel) ⟨Nat.le_of_ble_eq_true rfl, Nat.le_of_ble_eq_true rfl⟩), st_yX10_within, trivial⟩ (he_preS (wc := []) hK hP hD hS hA hE [] rfl rfl) rfl rfl hl.1 rfl (lv_room (Nat.le_of_ble_eq_true rfl)) dX6_fearAt_4 ⟨(Nat.le_of_ble_eq_true rfl), (Nat.le_of_ble_eq_true rfl)⟩) hP hD hS hA [] [0, 1] rfl rfl rfl (by decide) (fun r_1 u_2 H locs h_3 hP hD hS => ?_)
  subst h_3
  have hP : va_P g.1 vwCl [(oX6 p0 p1 p2 p3 p4 w), (aI g p2 10 fn)] H := hP
  have hD : va_D A [(oX6 p0 p1 p2 p3 p4 w), (aI g p2 10 fn)] := hD
  refine lv_if_eq (tgt := 19) hx hb dX6_fearAt_7 (by decide) (fun c_4 => ?_) (fun c_4 => ?_)
  · refine lv_iconst (v := 0) hx hb dX6_fearAt_19 (by decide) ?_
    exact he_ri hQ hx hb hr hlk hP hD hS dX6_fearAt_20 (Nat.le_of_ble_eq_true rfl) (Nat.le_of_ble_eq_true rfl) (()) (rfl) (by simp [faF, c_4])
  · refine lv_aload_n hx hb dX6_fearAt_10 rfl (lv_at hl 0 rfl) ?_
    refine va_get (v := .ref p2) (T := TX6) (N := 5) hx hb hts inX6 hown hK hP 0 rfl rfl 1 (by decide) f18 (fun _ h9 => h9) rfl dX6_fearAt_11 ?_
    refine lv_iload_n hx hb dX6_fearAt_14 rfl (lv_at hl 1 rfl) ?_
    refine he_iald hx hb hK hP 1 rfl (x.toNatClampNeg) (he_within_nat (B := 9) rfl (by decide) c_4).1 (Nat.lt_succ_of_le (he_within_nat (B := 9) rfl (by decide) c_4).2) (by first | decide | assumption) (fn x.toNatClampNeg) rfl dX6_fearAt_15 ?_
    refine lv_goto (tgt := 20) hx hb dX6_fearAt_16 (by decide) ?_
    exact he_ri hQ hx hb hr hlk hP hD hS dX6_fearAt_20 (Nat.le_of_ble_eq_true rfl) (Nat.le_of_ble_eq_true rfl) (()) (rfl) (by simp [faF, c_4])
set_option maxHeartbeats 4000000 in
set_option maxRecDepth 100000 in
theorem c_X5_wallDue (l : Launch) (g : he_G) (t0 : Nat) (t1 : Nat) (t2 : Nat) (pw : Int32) (wb : Nat → Int32) (x : Int32) (v : Int32)  : he_I l yX5_wallDue wsX5_wallDue 1 22 0 0 g [.ref t0, .int x, .int v] [(oX5 t0 t1 t2 pw), (aI g t2 36 wb)] (fun (r : Int32) (u : Unit) => r = wdF wb x v) (fun (u : Unit) => [(oX5 t0 t1 t2 pw), (aI g t2 36 wb)]) := by
  refine he_begin (l := l) (g := g) (y := yX5_wallDue) (wl := wsX5_wallDue) (fr := 1) (lo := 22) (mc := 0) (ms := 0) (av := [.ref t0, .int x, .int v]) (ws := [(oX5 t0 t1 t2 pw), (aI g t2 36 wb)]) (cc := cX5_wallDue) (maxL := 4) (ret := (some .int)) (fun A => va_Qi (fun (r : Int32) (u : Unit) => r = wdF wb x v) (fun u t => he_post g A ((fun (u : Unit) => [(oX5 t0 t1 t2 pw), (aI g t2 36 wb)]) u) t) A) (by decide) rfl (Nat.le_of_ble_eq_true rfl) ?_
  intro p e s m args below meth c A ls H locs Q hQ hB
  obtain ⟨hx, hb, hr, hml, hown, hts, hlk, hin, hP, hK, hD, hS, hA, hE, hl⟩ := hB
  have hl : lv_has ls 4 [(0, .ref t0), (1, .int x), (2, .int v)] := hl
  have nl37 := hE.nest (RX5, 37, yX10_within) (by decide +kernel)
  have iniX10 := hts (.initialized RX10) (iwoX5_wallDue (k := 2) rfl)
  have st_yX10_within := hts (.static yX10_within) (iwoX5_wallDue (k := 1) rfl)
  have f15 := hts (.fieldLink RX5 15 "HiredEnemy$Pact" "wallByMonth" "[I") (iwoX5_wallDue (k := 0) rfl)
  have inX5 : ∀ w ∈ wsX50, w ∈ wsX5_wallDue := innX5_wallDue_X5
  refine lv_iload_n hx hb dX5_wallDue_0 rfl (lv_at hl 1 rfl) ?_
  refine lv_iconst (v := 0) hx hb dX5_wallDue_1 (by decide) ?_
  refine lv_bipush (v := 35) hx hb dX5_wallDue_2 (by decide) ?_
  refine he_ci (wc := []) (wr := [(oX5 t0 t1 t2 pw), (aI g t2 36 wb)]) (va_runSN (As := [.int x, .int 0, .int 35]) (rest := []) ⟨hx, hb, hml, hown, hts⟩ (c_X10_within l g x 0 35 H.size) ⟨(va_cnB 3 hts gX5_wallDue_X10_within_n37 rfl rfl rfl nl37 iniX10 (by decide +kernel) ⟨Nat.le_of_ble_eq_true rfl, Nat.le_of_ble_eq_true rfl⟩), st_yX10_within, trivial⟩ (he_preS (wc := []) hK hP hD hS hA hE [] rfl rfl) rfl rfl hl.1 rfl (lv_room (Nat.le_of_ble_eq_true rfl)) dX5_wallDue_4 ⟨(Nat.le_of_ble_eq_true rfl), (Nat.le_of_ble_eq_true rfl)⟩) hP hD hS hA [] [0, 1] rfl rfl rfl (by decide) (fun r_1 u_2 H locs h_3 hP hD hS => ?_)
  subst h_3
  have hP : va_P g.1 vwCl [(oX5 t0 t1 t2 pw), (aI g t2 36 wb)] H := hP
  have hD : va_D A [(oX5 t0 t1 t2 pw), (aI g t2 36 wb)] := hD
  refine lv_if_eq (tgt := 19) hx hb dX5_wallDue_7 (by decide) (fun c_4 => ?_) (fun c_4 => ?_)
  · refine lv_iconst (v := (-1)) hx hb dX5_wallDue_19 (by decide) ?_
    refine lv_istore_n (lv' := [(3, .int (-1)), (0, .ref t0), (1, .int x), (2, .int v)]) hx hb dX5_wallDue_20 rfl hl (by decide) rfl (fun ls hl => ?_)
    refine lv_iload_n hx hb dX5_wallDue_21 rfl (lv_at hl 0 rfl) ?_
    refine lv_iload_n hx hb dX5_wallDue_22 rfl (lv_at hl 3 rfl) ?_
    refine lv_icmp_ge (tgt := 30) hx hb dX5_wallDue_23 (by decide) (fun c_5 => ?_) (fun c_5 => ?_)
    · refine lv_iconst (v := (-1)) hx hb dX5_wallDue_30 (by decide) ?_
      exact he_ri hQ hx hb hr hlk hP hD hS dX5_wallDue_31 (Nat.le_of_ble_eq_true rfl) (Nat.le_of_ble_eq_true rfl) (()) (rfl) (by simp [wdF, wdX, c_4, c_5])
    · refine lv_iload_n hx hb dX5_wallDue_26 rfl (lv_at hl 0 rfl) ?_
      refine lv_goto (tgt := 31) hx hb dX5_wallDue_27 (by decide) ?_
      exact he_ri hQ hx hb hr hlk hP hD hS dX5_wallDue_31 (Nat.le_of_ble_eq_true rfl) (Nat.le_of_ble_eq_true rfl) (()) (rfl) (by simp [wdF, wdX, c_4, c_5])
  · refine lv_aload_n hx hb dX5_wallDue_10 rfl (lv_at hl 0 rfl) ?_
    refine va_get (v := .ref t2) (T := TX5) (N := 3) hx hb hts inX5 hown hK hP 0 rfl rfl 1 (by decide) f15 (fun _ h9 => h9) rfl dX5_wallDue_11 ?_
    refine lv_iload_n hx hb dX5_wallDue_14 rfl (lv_at hl 1 rfl) ?_
    refine he_iald hx hb hK hP 1 rfl (x.toNatClampNeg) (he_within_nat (B := 35) rfl (by decide) c_4).1 (Nat.lt_succ_of_le (he_within_nat (B := 35) rfl (by decide) c_4).2) (by first | decide | assumption) (wb x.toNatClampNeg) rfl dX5_wallDue_15 ?_
    refine lv_goto (tgt := 20) hx hb dX5_wallDue_16 (by decide) ?_
    refine lv_istore_n (lv' := [(3, .int (wb x.toNatClampNeg)), (0, .ref t0), (1, .int x), (2, .int v)]) hx hb dX5_wallDue_20 rfl hl (by decide) rfl (fun ls hl => ?_)
    refine lv_iload_n hx hb dX5_wallDue_21 rfl (lv_at hl 0 rfl) ?_
    refine lv_iload_n hx hb dX5_wallDue_22 rfl (lv_at hl 3 rfl) ?_
    refine lv_icmp_ge (tgt := 30) hx hb dX5_wallDue_23 (by decide) (fun c_6 => ?_) (fun c_6 => ?_)
    · refine lv_iconst (v := (-1)) hx hb dX5_wallDue_30 (by decide) ?_
      exact he_ri hQ hx hb hr hlk hP hD hS dX5_wallDue_31 (Nat.le_of_ble_eq_true rfl) (Nat.le_of_ble_eq_true rfl) (()) (rfl) (by simp [wdF, wdX, c_4, c_6])
    · refine lv_iload_n hx hb dX5_wallDue_26 rfl (lv_at hl 0 rfl) ?_
      refine lv_goto (tgt := 31) hx hb dX5_wallDue_27 (by decide) ?_
      exact he_ri hQ hx hb hr hlk hP hD hS dX5_wallDue_31 (Nat.le_of_ble_eq_true rfl) (Nat.le_of_ble_eq_true rfl) (()) (rfl) (by simp [wdF, wdX, c_4, c_6])
set_option maxHeartbeats 4000000 in
set_option maxRecDepth 100000 in
theorem c_X5_winterPay (l : Launch) (g : he_G) (t0 : Nat) (t1 : Nat) (t2 : Nat) (pw : Int32) (pd : Nat → Int32)  : he_I l yX5_winterPay wsX5_winterPay 0 0 0 0 g [.ref t0] [(oX5 t0 t1 t2 pw), (aI g t1 6 pd)] (fun (r : Int32) (u : Unit) => r = wpF pd) (fun (u : Unit) => [(oX5 t0 t1 t2 pw), (aI g t1 6 pd)]) := by
  refine he_begin (l := l) (g := g) (y := yX5_winterPay) (wl := wsX5_winterPay) (fr := 0) (lo := 0) (mc := 0) (ms := 0) (av := [.ref t0]) (ws := [(oX5 t0 t1 t2 pw), (aI g t1 6 pd)]) (cc := cX5_winterPay) (maxL := 1) (ret := (some .int)) (fun A => va_Qi (fun (r : Int32) (u : Unit) => r = wpF pd) (fun u t => he_post g A ((fun (u : Unit) => [(oX5 t0 t1 t2 pw), (aI g t1 6 pd)]) u) t) A) (by decide) rfl (Nat.le_of_ble_eq_true rfl) ?_
  intro p e s m args below meth c A ls H locs Q hQ hB
  obtain ⟨hx, hb, hr, hml, hown, hts, hlk, hin, hP, hK, hD, hS, hA, hE, hl⟩ := hB
  have hl : lv_has ls 1 [(0, .ref t0)] := hl
  have f11 := hts (.fieldLink RX5 11 "HiredEnemy$Pact" "said" "[I") (iwoX5_winterPay (k := 0) rfl)
  have inX5 : ∀ w ∈ wsX50, w ∈ wsX5_winterPay := innX5_winterPay_X5
  refine lv_aload_n hx hb dX5_winterPay_0 rfl (lv_at hl 0 rfl) ?_
  refine va_get (v := .ref t1) (T := TX5) (N := 3) hx hb hts inX5 hown hK hP 0 rfl rfl 0 (by decide) f11 (fun _ h9 => h9) rfl dX5_winterPay_1 ?_
  refine lv_iconst (v := 1) hx hb dX5_winterPay_4 (by decide) ?_
  refine he_iald hx hb hK hP 1 rfl (1) (by decide) (by decide) (by first | decide | assumption) (pd 1) rfl dX5_winterPay_5 ?_
  refine lv_iconst (v := (-1)) hx hb dX5_winterPay_6 (by decide) ?_
  refine lv_icmp_ne (tgt := 19) hx hb dX5_winterPay_7 (by decide) (fun c_1 => ?_) (fun c_1 => ?_)
  · refine lv_aload_n hx hb dX5_winterPay_19 rfl (lv_at hl 0 rfl) ?_
    refine va_get (v := .ref t1) (T := TX5) (N := 3) hx hb hts inX5 hown hK hP 0 rfl rfl 0 (by decide) f11 (fun _ h9 => h9) rfl dX5_winterPay_20 ?_
    refine lv_iconst (v := 1) hx hb dX5_winterPay_23 (by decide) ?_
    refine he_iald hx hb hK hP 1 rfl (1) (by decide) (by decide) (by first | decide | assumption) (pd 1) rfl dX5_winterPay_24 ?_
    exact he_ri hQ hx hb hr hlk hP hD hS dX5_winterPay_25 (Nat.le_of_ble_eq_true rfl) (Nat.le_of_ble_eq_true rfl) (()) (rfl) (by simp [wpF, c_1])
  · refine lv_aload_n hx hb dX5_winterPay_10 rfl (lv_at hl 0 rfl) ?_
    refine va_get (v := .ref t1) (T := TX5) (N := 3) hx hb hts inX5 hown hK hP 0 rfl rfl 0 (by decide) f11 (fun _ h9 => h9) rfl dX5_winterPay_11 ?_
    refine lv_iconst (v := 0) hx hb dX5_winterPay_14 (by decide) ?_
    refine he_iald hx hb hK hP 1 rfl (0) (by decide) (by decide) (by first | decide | assumption) (pd 0) rfl dX5_winterPay_15 ?_
    refine lv_goto (tgt := 25) hx hb dX5_winterPay_16 (by decide) ?_
    exact he_ri hQ hx hb hr hlk hP hD hS dX5_winterPay_25 (Nat.le_of_ble_eq_true rfl) (Nat.le_of_ble_eq_true rfl) (()) (rfl) (by simp [wpF, c_1])
set_option maxHeartbeats 4000000 in
set_option maxRecDepth 100000 in
theorem c_X5_payIn (l : Launch) (g : he_G) (t0 : Nat) (t1 : Nat) (t2 : Nat) (pw : Int32) (pd : Nat → Int32) (mo : Int32)  : he_I l yX5_payIn wsX5_payIn 1 20 0 0 g [.ref t0, .int mo] [(oX5 t0 t1 t2 pw), (aI g t1 6 pd)] (fun (r : Int32) (u : Unit) => r = payF pd mo) (fun (u : Unit) => [(oX5 t0 t1 t2 pw), (aI g t1 6 pd)]) := by
  refine he_begin (l := l) (g := g) (y := yX5_payIn) (wl := wsX5_payIn) (fr := 1) (lo := 20) (mc := 0) (ms := 0) (av := [.ref t0, .int mo]) (ws := [(oX5 t0 t1 t2 pw), (aI g t1 6 pd)]) (cc := cX5_payIn) (maxL := 3) (ret := (some .int)) (fun A => va_Qi (fun (r : Int32) (u : Unit) => r = payF pd mo) (fun u t => he_post g A ((fun (u : Unit) => [(oX5 t0 t1 t2 pw), (aI g t1 6 pd)]) u) t) A) (by decide) rfl (Nat.le_of_ble_eq_true rfl) ?_
  intro p e s m args below meth c A ls H locs Q hQ hB
  obtain ⟨hx, hb, hr, hml, hown, hts, hlk, hin, hP, hK, hD, hS, hA, hE, hl⟩ := hB
  have hl : lv_has ls 3 [(0, .ref t0), (1, .int mo)] := hl
  have f11 := hts (.fieldLink RX5 11 "HiredEnemy$Pact" "said" "[I") (iwoX5_payIn (k := 0) rfl)
  have inX5 : ∀ w ∈ wsX50, w ∈ wsX5_payIn := innX5_payIn_X5
  refine lv_iload_n hx hb dX5_payIn_0 rfl (lv_at hl 1 rfl) ?_
  refine lv_bipush (v := 12) hx hb dX5_payIn_1 (by decide) ?_
  refine lv_irem hx hb dX5_payIn_3 (by decide) ?_
  refine lv_istore_n (lv' := [(2, .int (mo - mo / 12 * 12)), (0, .ref t0), (1, .int mo)]) hx hb dX5_payIn_4 rfl hl (by decide) rfl (fun ls hl => ?_)
  refine lv_iload_n hx hb dX5_payIn_5 rfl (lv_at hl 0 rfl) ?_
  refine lv_bipush (v := 10) hx hb dX5_payIn_6 (by decide) ?_
  refine lv_icmp_ge (tgt := 16) hx hb dX5_payIn_8 (by decide) (fun c_1 => ?_) (fun c_1 => ?_)
  · refine lv_aload_n hx hb dX5_payIn_16 rfl (lv_at hl 1 rfl) ?_
    refine he_ci (wc := [(oX5 t0 t1 t2 pw), (aI g t1 6 pd)]) (wr := []) (va_runV (As := []) (rest := []) ⟨hx, hb, hml, hown, hts⟩ (c_X5_winterPay l g t0 t1 t2 pw pd H.size) (cwV 0 hts gX5_payIn_X5_winterPay rfl rfl rfl (by decide +kernel) ⟨Nat.le_of_ble_eq_true rfl, Nat.le_of_ble_eq_true rfl⟩) (he_preV (wc := [(oX5 t0 t1 t2 pw), (aI g t1 6 pd)]) hK hP hD hS hA hE [0, 1] rfl rfl 0 rfl rfl) rfl rfl hl.1 rfl (lv_room (Nat.le_of_ble_eq_true rfl)) dX5_payIn_17 ⟨(Nat.le_of_ble_eq_true rfl), (Nat.le_of_ble_eq_true rfl)⟩) hP hD hS hA [0, 1] [] rfl rfl rfl (by decide) (fun r_2 u_3 H locs h_4 hP hD hS => ?_)
    subst h_4
    have hP : va_P g.1 vwCl [(oX5 t0 t1 t2 pw), (aI g t1 6 pd)] H := hP
    have hD : va_D A [(oX5 t0 t1 t2 pw), (aI g t1 6 pd)] := hD
    refine lv_goto (tgt := 29) hx hb dX5_payIn_20 (by decide) ?_
    exact he_ri hQ hx hb hr hlk hP hD hS dX5_payIn_29 (Nat.le_of_ble_eq_true rfl) (Nat.le_of_ble_eq_true rfl) (()) (rfl) (by simp [payF, c_1])
  · refine lv_iload_n hx hb dX5_payIn_11 rfl (lv_at hl 0 rfl) ?_
    refine lv_iconst (v := 1) hx hb dX5_payIn_12 (by decide) ?_
    refine lv_icmp_gt (tgt := 23) hx hb dX5_payIn_13 (by decide) (fun c_5 => ?_) (fun c_5 => ?_)
    · refine lv_aload_n hx hb dX5_payIn_23 rfl (lv_at hl 1 rfl) ?_
      refine va_get (v := .ref t1) (T := TX5) (N := 3) hx hb hts inX5 hown hK hP 0 rfl rfl 0 (by decide) f11 (fun _ h9 => h9) rfl dX5_payIn_24 ?_
      refine lv_iconst (v := 0) hx hb dX5_payIn_27 (by decide) ?_
      refine he_iald hx hb hK hP 1 rfl (0) (by decide) (by decide) (by first | decide | assumption) (pd 0) rfl dX5_payIn_28 ?_
      exact he_ri hQ hx hb hr hlk hP hD hS dX5_payIn_29 (Nat.le_of_ble_eq_true rfl) (Nat.le_of_ble_eq_true rfl) (()) (rfl) (by simp [payF, c_1, c_5])
    · refine lv_aload_n hx hb dX5_payIn_16 rfl (lv_at hl 1 rfl) ?_
      refine he_ci (wc := [(oX5 t0 t1 t2 pw), (aI g t1 6 pd)]) (wr := []) (va_runV (As := []) (rest := []) ⟨hx, hb, hml, hown, hts⟩ (c_X5_winterPay l g t0 t1 t2 pw pd H.size) (cwV 0 hts gX5_payIn_X5_winterPay rfl rfl rfl (by decide +kernel) ⟨Nat.le_of_ble_eq_true rfl, Nat.le_of_ble_eq_true rfl⟩) (he_preV (wc := [(oX5 t0 t1 t2 pw), (aI g t1 6 pd)]) hK hP hD hS hA hE [0, 1] rfl rfl 0 rfl rfl) rfl rfl hl.1 rfl (lv_room (Nat.le_of_ble_eq_true rfl)) dX5_payIn_17 ⟨(Nat.le_of_ble_eq_true rfl), (Nat.le_of_ble_eq_true rfl)⟩) hP hD hS hA [0, 1] [] rfl rfl rfl (by decide) (fun r_6 u_7 H locs h_8 hP hD hS => ?_)
      subst h_8
      have hP : va_P g.1 vwCl [(oX5 t0 t1 t2 pw), (aI g t1 6 pd)] H := hP
      have hD : va_D A [(oX5 t0 t1 t2 pw), (aI g t1 6 pd)] := hD
      refine lv_goto (tgt := 29) hx hb dX5_payIn_20 (by decide) ?_
      exact he_ri hQ hx hb hr hlk hP hD hS dX5_payIn_29 (Nat.le_of_ble_eq_true rfl) (Nat.le_of_ble_eq_true rfl) (()) (rfl) (by simp [payF, c_1, c_5])
set_option maxHeartbeats 4000000 in
set_option maxRecDepth 100000 in
theorem c_X5_clear (l : Launch) (g : he_G) (t0 : Nat) (t1 : Nat) (t2 : Nat) (pw : Int32) (pd : Nat → Int32) (wb : Nat → Int32) (x : Int32)  : he_V l yX5_clear wsX5_clear 1 23 0 0 g [.ref t0, .int x] [(oX5 t0 t1 t2 pw), (aI g t1 6 pd), (aI g t2 36 wb)] (fun (u : Unit) => True) (fun (u : Unit) => [(oX5 t0 t1 t2 x), (aI g t1 6 (clP pd)), (aI g t2 36 (flF (fun _ => -1) wb 36))]) := by
  refine he_begin (l := l) (g := g) (y := yX5_clear) (wl := wsX5_clear) (fr := 1) (lo := 23) (mc := 0) (ms := 0) (av := [.ref t0, .int x]) (ws := [(oX5 t0 t1 t2 pw), (aI g t1 6 pd), (aI g t2 36 wb)]) (cc := cX5_clear) (maxL := 2) (ret := none) (fun A => va_Qv (fun (u : Unit) => True) (fun u t => he_post g A ((fun (u : Unit) => [(oX5 t0 t1 t2 x), (aI g t1 6 (clP pd)), (aI g t2 36 (flF (fun _ => -1) wb 36))]) u) t) A) (by decide) rfl (Nat.le_of_ble_eq_true rfl) ?_
  intro p e s m args below meth c A ls H locs Q hQ hB
  obtain ⟨hx, hb, hr, hml, hown, hts, hlk, hin, hP, hK, hD, hS, hA, hE, hl⟩ := hB
  have hl : lv_has ls 2 [(0, .ref t0), (1, .int x)] := hl
  have f18 := hts (.fieldLink RX5 18 "HiredEnemy$Pact" "walls" "I") (iwoX5_clear (k := 0) rfl)
  have inX5 : ∀ w ∈ wsX50, w ∈ wsX5_clear := innX5_clear_X5
  have f11 := hts (.fieldLink RX5 11 "HiredEnemy$Pact" "said" "[I") (iwoX5_clear (k := 1) rfl)
  have f15 := hts (.fieldLink RX5 15 "HiredEnemy$Pact" "wallByMonth" "[I") (iwoX5_clear (k := 2) rfl)
  refine lv_aload_n hx hb dX5_clear_0 rfl (lv_at hl 0 rfl) ?_
  refine lv_iload_n hx hb dX5_clear_1 rfl (lv_at hl 1 rfl) ?_
  refine va_put (v := .int x) (ty := .int) (T := TX5) (N := 3) hx hb hts inX5 tyX5 tyX5_ok nmX5 hown hK hP hD hS 0 rfl rfl 2 (by decide) f18 (fun _ h9 => h9) rfl (by decide +kernel) rfl rfl (Nat.le_of_ble_eq_true rfl) dX5_clear_2 (fun H locs hP hD hS => ?_)
  have hP : va_P g.1 vwCl [(oX5 t0 t1 t2 x), (aI g t1 6 pd), (aI g t2 36 wb)] H := hP
  have hD : va_D A [(oX5 t0 t1 t2 x), (aI g t1 6 pd), (aI g t2 36 wb)] := hD
  refine lv_aload_n hx hb dX5_clear_5 rfl (lv_at hl 0 rfl) ?_
  refine va_get (v := .ref t1) (T := TX5) (N := 3) hx hb hts inX5 hown hK hP 0 rfl rfl 0 (by decide) f11 (fun _ h9 => h9) rfl dX5_clear_6 ?_
  refine lv_iconst (v := 0) hx hb dX5_clear_9 (by decide) ?_
  refine lv_iconst (v := 0) hx hb dX5_clear_10 (by decide) ?_
  refine he_iast hx hb hK hP hD hS 1 rfl (0) (by decide) (by decide) (by first | decide | assumption) dX5_clear_11 (fun H locs hP hD hS => ?_)
  have hP : va_P g.1 vwCl [(oX5 t0 t1 t2 x), (aI g t1 6 (upd pd 0 0)), (aI g t2 36 wb)] H := hP
  have hD : va_D A [(oX5 t0 t1 t2 x), (aI g t1 6 (upd pd 0 0)), (aI g t2 36 wb)] := hD
  refine lv_aload_n hx hb dX5_clear_12 rfl (lv_at hl 0 rfl) ?_
  refine va_get (v := .ref t1) (T := TX5) (N := 3) hx hb hts inX5 hown hK hP 0 rfl rfl 0 (by decide) f11 (fun _ h9 => h9) rfl dX5_clear_13 ?_
  refine lv_iconst (v := 1) hx hb dX5_clear_16 (by decide) ?_
  refine lv_iconst (v := (-1)) hx hb dX5_clear_17 (by decide) ?_
  refine he_iast hx hb hK hP hD hS 1 rfl (1) (by decide) (by decide) (by first | decide | assumption) dX5_clear_18 (fun H locs hP hD hS => ?_)
  have hP : va_P g.1 vwCl [(oX5 t0 t1 t2 x), (aI g t1 6 (upd (upd pd 0 0) 1 (-1))), (aI g t2 36 wb)] H := hP
  have hD : va_D A [(oX5 t0 t1 t2 x), (aI g t1 6 (upd (upd pd 0 0) 1 (-1))), (aI g t2 36 wb)] := hD
  refine lv_aload_n hx hb dX5_clear_19 rfl (lv_at hl 0 rfl) ?_
  refine va_get (v := .ref t1) (T := TX5) (N := 3) hx hb hts inX5 hown hK hP 0 rfl rfl 0 (by decide) f11 (fun _ h9 => h9) rfl dX5_clear_20 ?_
  refine lv_iconst (v := 2) hx hb dX5_clear_23 (by decide) ?_
  refine lv_bipush (v := 9) hx hb dX5_clear_24 (by decide) ?_
  refine he_iast hx hb hK hP hD hS 1 rfl (2) (by decide) (by decide) (by first | decide | assumption) dX5_clear_26 (fun H locs hP hD hS => ?_)
  have hP : va_P g.1 vwCl [(oX5 t0 t1 t2 x), (aI g t1 6 (upd (upd (upd pd 0 0) 1 (-1)) 2 9)), (aI g t2 36 wb)] H := hP
  have hD : va_D A [(oX5 t0 t1 t2 x), (aI g t1 6 (upd (upd (upd pd 0 0) 1 (-1)) 2 9)), (aI g t2 36 wb)] := hD
  refine lv_aload_n hx hb dX5_clear_27 rfl (lv_at hl 0 rfl) ?_
  refine va_get (v := .ref t1) (T := TX5) (N := 3) hx hb hts inX5 hown hK hP 0 rfl rfl 0 (by decide) f11 (fun _ h9 => h9) rfl dX5_clear_28 ?_
  refine lv_iconst (v := 3) hx hb dX5_clear_31 (by decide) ?_
  refine lv_iconst (v := 0) hx hb dX5_clear_32 (by decide) ?_
  refine he_iast hx hb hK hP hD hS 1 rfl (3) (by decide) (by decide) (by first | decide | assumption) dX5_clear_33 (fun H locs hP hD hS => ?_)
  have hP : va_P g.1 vwCl [(oX5 t0 t1 t2 x), (aI g t1 6 (upd (upd (upd (upd pd 0 0) 1 (-1)) 2 9) 3 0)), (aI g t2 36 wb)] H := hP
  have hD : va_D A [(oX5 t0 t1 t2 x), (aI g t1 6 (upd (upd (upd (upd pd 0 0) 1 (-1)) 2 9) 3 0)), (aI g t2 36 wb)] := hD
  refine lv_aload_n hx hb dX5_clear_34 rfl (lv_at hl 0 rfl) ?_
  refine va_get (v := .ref t1) (T := TX5) (N := 3) hx hb hts inX5 hown hK hP 0 rfl rfl 0 (by decide) f11 (fun _ h9 => h9) rfl dX5_clear_35 ?_
  refine lv_iconst (v := 4) hx hb dX5_clear_38 (by decide) ?_
  refine lv_iconst (v := 0) hx hb dX5_clear_39 (by decide) ?_
  refine he_iast hx hb hK hP hD hS 1 rfl (4) (by decide) (by decide) (by first | decide | assumption) dX5_clear_40 (fun H locs hP hD hS => ?_)
  have hP : va_P g.1 vwCl [(oX5 t0 t1 t2 x), (aI g t1 6 (upd (upd (upd (upd (upd pd 0 0) 1 (-1)) 2 9) 3 0) 4 0)), (aI g t2 36 wb)] H := hP
  have hD : va_D A [(oX5 t0 t1 t2 x), (aI g t1 6 (upd (upd (upd (upd (upd pd 0 0) 1 (-1)) 2 9) 3 0) 4 0)), (aI g t2 36 wb)] := hD
  refine lv_aload_n hx hb dX5_clear_41 rfl (lv_at hl 0 rfl) ?_
  refine va_get (v := .ref t1) (T := TX5) (N := 3) hx hb hts inX5 hown hK hP 0 rfl rfl 0 (by decide) f11 (fun _ h9 => h9) rfl dX5_clear_42 ?_
  refine lv_iconst (v := 5) hx hb dX5_clear_45 (by decide) ?_
  refine lv_bipush (v := 36) hx hb dX5_clear_46 (by decide) ?_
  refine he_iast hx hb hK hP hD hS 1 rfl (5) (by decide) (by decide) (by first | decide | assumption) dX5_clear_48 (fun H locs hP hD hS => ?_)
  have hP : va_P g.1 vwCl [(oX5 t0 t1 t2 x), (aI g t1 6 (upd (upd (upd (upd (upd (upd pd 0 0) 1 (-1)) 2 9) 3 0) 4 0) 5 36)), (aI g t2 36 wb)] H := hP
  have hD : va_D A [(oX5 t0 t1 t2 x), (aI g t1 6 (upd (upd (upd (upd (upd (upd pd 0 0) 1 (-1)) 2 9) 3 0) 4 0) 5 36)), (aI g t2 36 wb)] := hD
  refine lv_aload_n hx hb dX5_clear_49 rfl (lv_at hl 0 rfl) ?_
  refine va_get (v := .ref t2) (T := TX5) (N := 3) hx hb hts inX5 hown hK hP 0 rfl rfl 1 (by decide) f15 (fun _ h9 => h9) rfl dX5_clear_50 ?_
  refine lv_iconst (v := (-1)) hx hb dX5_clear_53 (by decide) ?_
  refine he_cv (wc := [(aI g t2 36 wb)]) (wr := [(oX5 t0 t1 t2 x), (aI g t1 6 (upd (upd (upd (upd (upd (upd pd 0 0) 1 (-1)) 2 9) 3 0) 4 0) 5 36))]) (va_runS (As := [.ref t2, .int (-1)]) (rest := []) ⟨hx, hb, hml, hown, hts⟩ (c_J7_fill_53178 l g t2 36 wb (-1) (by first | assumption | decide | omega) H.size) (va_cwS 2 hts gX5_clear_J7_fill_53178 rfl rfl rfl (by decide +kernel) ⟨Nat.le_of_ble_eq_true rfl, Nat.le_of_ble_eq_true rfl⟩) (he_preS (wc := [(aI g t2 36 wb)]) hK hP hD hS hA hE [2] rfl rfl) rfl rfl hl.1 rfl (lv_room (Nat.le_of_ble_eq_true rfl)) dX5_clear_54 ⟨(Nat.le_of_ble_eq_true rfl), (Nat.le_of_ble_eq_true rfl)⟩) hP hD hS hA [2] [0, 1] rfl rfl rfl (by decide) (fun u_2 H locs h_3 hP hD hS => ?_)
  have hP : va_P g.1 vwCl [(oX5 t0 t1 t2 x), (aI g t1 6 (upd (upd (upd (upd (upd (upd pd 0 0) 1 (-1)) 2 9) 3 0) 4 0) 5 36)), (aI g t2 36 (flF (fun _ => (-1)) wb 36))] H := hP
  have hD : va_D A [(oX5 t0 t1 t2 x), (aI g t1 6 (upd (upd (upd (upd (upd (upd pd 0 0) 1 (-1)) 2 9) 3 0) 4 0) 5 36)), (aI g t2 36 (flF (fun _ => (-1)) wb 36))] := hD
  exact he_rv hQ hx hb hr hlk hP hD hS dX5_clear_57 (Nat.le_of_ble_eq_true rfl) (Nat.le_of_ble_eq_true rfl) (()) (rfl) (trivial)
set_option maxHeartbeats 4000000 in
set_option maxRecDepth 100000 in
theorem c_X5_propose (l : Launch) (g : he_G) (t0 : Nat) (t1 : Nat) (t2 : Nat) (pw : Int32) (pd : Nat → Int32) (wb : Nat → Int32) (a : Int32) (b : Int32) (d : Int32) (k : Int32)  : he_V l yX5_propose wsX5_propose 2 44 0 0 g [.ref t0, .int a, .int b, .int d, .int k] [(oX5 t0 t1 t2 pw), (aI g t1 6 pd), (aI g t2 36 wb)] (fun (u : Unit) => True) (fun (u : Unit) => [(oX5 t0 t1 t2 0), (aI g t1 6 (prP pd a b d k)), (aI g t2 36 (flF (fun _ => -1) wb 36))]) := by
  refine he_begin (l := l) (g := g) (y := yX5_propose) (wl := wsX5_propose) (fr := 2) (lo := 44) (mc := 0) (ms := 0) (av := [.ref t0, .int a, .int b, .int d, .int k]) (ws := [(oX5 t0 t1 t2 pw), (aI g t1 6 pd), (aI g t2 36 wb)]) (cc := cX5_propose) (maxL := 5) (ret := none) (fun A => va_Qv (fun (u : Unit) => True) (fun u t => he_post g A ((fun (u : Unit) => [(oX5 t0 t1 t2 0), (aI g t1 6 (prP pd a b d k)), (aI g t2 36 (flF (fun _ => -1) wb 36))]) u) t) A) (by decide) rfl (Nat.le_of_ble_eq_true rfl) ?_
  intro p e s m args below meth c A ls H locs Q hQ hB
  obtain ⟨hx, hb, hr, hml, hown, hts, hlk, hin, hP, hK, hD, hS, hA, hE, hl⟩ := hB
  have hl : lv_has ls 5 [(0, .ref t0), (1, .int a), (2, .int b), (3, .int d), (4, .int k)] := hl
  have f11 := hts (.fieldLink RX5 11 "HiredEnemy$Pact" "said" "[I") (iwoX5_propose (k := 0) rfl)
  have inX5 : ∀ w ∈ wsX50, w ∈ wsX5_propose := innX5_propose_X5
  refine lv_aload_n hx hb dX5_propose_0 rfl (lv_at hl 0 rfl) ?_
  refine lv_iconst (v := 0) hx hb dX5_propose_1 (by decide) ?_
  refine he_cv (wc := [(oX5 t0 t1 t2 pw), (aI g t1 6 pd), (aI g t2 36 wb)]) (wr := []) (va_runV (As := [.int 0]) (rest := []) ⟨hx, hb, hml, hown, hts⟩ (c_X5_clear l g t0 t1 t2 pw pd wb 0 H.size) (cwV 1 hts gX5_propose_X5_clear rfl rfl rfl (by decide +kernel) ⟨Nat.le_of_ble_eq_true rfl, Nat.le_of_ble_eq_true rfl⟩) (he_preV (wc := [(oX5 t0 t1 t2 pw), (aI g t1 6 pd), (aI g t2 36 wb)]) hK hP hD hS hA hE [0, 1, 2] rfl rfl 0 rfl rfl) rfl rfl hl.1 rfl (lv_room (Nat.le_of_ble_eq_true rfl)) dX5_propose_2 ⟨(Nat.le_of_ble_eq_true rfl), (Nat.le_of_ble_eq_true rfl)⟩) hP hD hS hA [0, 1, 2] [] rfl rfl rfl (by decide) (fun u_2 H locs h_3 hP hD hS => ?_)
  have hP : va_P g.1 vwCl [(oX5 t0 t1 t2 0), (aI g t1 6 (clP pd)), (aI g t2 36 (flF (fun _ => -1) wb 36))] H := hP
  have hD : va_D A [(oX5 t0 t1 t2 0), (aI g t1 6 (clP pd)), (aI g t2 36 (flF (fun _ => -1) wb 36))] := hD
  refine lv_aload_n hx hb dX5_propose_5 rfl (lv_at hl 0 rfl) ?_
  refine va_get (v := .ref t1) (T := TX5) (N := 3) hx hb hts inX5 hown hK hP 0 rfl rfl 0 (by decide) f11 (fun _ h9 => h9) rfl dX5_propose_6 ?_
  refine lv_iconst (v := 0) hx hb dX5_propose_9 (by decide) ?_
  refine lv_iload_n hx hb dX5_propose_10 rfl (lv_at hl 1 rfl) ?_
  refine he_iast hx hb hK hP hD hS 1 rfl (0) (by decide) (by decide) (by first | decide | assumption) dX5_propose_11 (fun H locs hP hD hS => ?_)
  have hP : va_P g.1 vwCl [(oX5 t0 t1 t2 0), (aI g t1 6 (upd (clP pd) 0 a)), (aI g t2 36 (flF (fun _ => -1) wb 36))] H := hP
  have hD : va_D A [(oX5 t0 t1 t2 0), (aI g t1 6 (upd (clP pd) 0 a)), (aI g t2 36 (flF (fun _ => -1) wb 36))] := hD
  refine lv_aload_n hx hb dX5_propose_12 rfl (lv_at hl 0 rfl) ?_
  refine va_get (v := .ref t1) (T := TX5) (N := 3) hx hb hts inX5 hown hK hP 0 rfl rfl 0 (by decide) f11 (fun _ h9 => h9) rfl dX5_propose_13 ?_
  refine lv_iconst (v := 2) hx hb dX5_propose_16 (by decide) ?_
  refine lv_iload_n hx hb dX5_propose_17 rfl (lv_at hl 2 rfl) ?_
  refine he_iast hx hb hK hP hD hS 1 rfl (2) (by decide) (by decide) (by first | decide | assumption) dX5_propose_18 (fun H locs hP hD hS => ?_)
  have hP : va_P g.1 vwCl [(oX5 t0 t1 t2 0), (aI g t1 6 (upd (upd (clP pd) 0 a) 2 b)), (aI g t2 36 (flF (fun _ => -1) wb 36))] H := hP
  have hD : va_D A [(oX5 t0 t1 t2 0), (aI g t1 6 (upd (upd (clP pd) 0 a) 2 b)), (aI g t2 36 (flF (fun _ => -1) wb 36))] := hD
  refine lv_aload_n hx hb dX5_propose_19 rfl (lv_at hl 0 rfl) ?_
  refine va_get (v := .ref t1) (T := TX5) (N := 3) hx hb hts inX5 hown hK hP 0 rfl rfl 0 (by decide) f11 (fun _ h9 => h9) rfl dX5_propose_20 ?_
  refine lv_iconst (v := 3) hx hb dX5_propose_23 (by decide) ?_
  refine lv_iload_n hx hb dX5_propose_24 rfl (lv_at hl 3 rfl) ?_
  refine he_iast hx hb hK hP hD hS 1 rfl (3) (by decide) (by decide) (by first | decide | assumption) dX5_propose_25 (fun H locs hP hD hS => ?_)
  have hP : va_P g.1 vwCl [(oX5 t0 t1 t2 0), (aI g t1 6 (upd (upd (upd (clP pd) 0 a) 2 b) 3 d)), (aI g t2 36 (flF (fun _ => -1) wb 36))] H := hP
  have hD : va_D A [(oX5 t0 t1 t2 0), (aI g t1 6 (upd (upd (upd (clP pd) 0 a) 2 b) 3 d)), (aI g t2 36 (flF (fun _ => -1) wb 36))] := hD
  refine lv_aload_n hx hb dX5_propose_26 rfl (lv_at hl 0 rfl) ?_
  refine va_get (v := .ref t1) (T := TX5) (N := 3) hx hb hts inX5 hown hK hP 0 rfl rfl 0 (by decide) f11 (fun _ h9 => h9) rfl dX5_propose_27 ?_
  refine lv_iconst (v := 5) hx hb dX5_propose_30 (by decide) ?_
  refine lv_iload hx hb dX5_propose_31 (lv_at hl 4 rfl) ?_
  refine he_iast hx hb hK hP hD hS 1 rfl (5) (by decide) (by decide) (by first | decide | assumption) dX5_propose_33 (fun H locs hP hD hS => ?_)
  have hP : va_P g.1 vwCl [(oX5 t0 t1 t2 0), (aI g t1 6 (upd (upd (upd (upd (clP pd) 0 a) 2 b) 3 d) 5 k)), (aI g t2 36 (flF (fun _ => -1) wb 36))] H := hP
  have hD : va_D A [(oX5 t0 t1 t2 0), (aI g t1 6 (upd (upd (upd (upd (clP pd) 0 a) 2 b) 3 d) 5 k)), (aI g t2 36 (flF (fun _ => -1) wb 36))] := hD
  exact he_rv hQ hx hb hr hlk hP hD hS dX5_propose_34 (Nat.le_of_ble_eq_true rfl) (Nat.le_of_ble_eq_true rfl) (()) (rfl) (trivial)
