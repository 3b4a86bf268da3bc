section PTQ
variable {T : Nat → Nat} {n k q : Nat} {wl : List (List Nat)} {bd : Nat → List (Nat × Nat)} {full : Nat → Bool} {vs : List Nat}
theorem pt_q (h : (ptS T n wl bd full k).2.2 = some (q, vs)) : ∃ p, wrdF T k (rn isLt T n k) wl = some q ∧ full q = false ∧ nmS T n (bd q) (rn isLt T n k) = (none, p, vs) ∧ (ptS T n wl bd full k).2.1 ≤ n := by
  cases hw : wrdF T k (rn isLt T n k) wl with
  | none => rw [ptS_n hw] at h; cases h
  | some q' =>
    cases hf : full q' with
    | true => rw [ptS_3 hw hf] at h; cases h
    | false =>
      rcases hn : nmS T n (bd q') (rn isLt T n k) with ⟨f, p, vs'⟩
      cases f with
      | some f => rw [ptS_f hw hf hn] at h; cases h
      | none =>
        by_cases hs : rn isBl T n p < n ∧ T (rn isBl T n p) = 59
        · rw [ptS_o hw hf hn hs] at h ⊢
          cases h
          exact ⟨p, rfl, hf, hn, hs.1⟩
        · rw [ptS_c hw hf hn hs] at h; cases h
end PTQ
/-- a whole text: its fault and the place, or none; the parts it tells up to there -/
def txP (T : Nat → Nat) (n : Nat) (wl : List (List Nat)) (bd : Nat → List (Nat × Nat)) (full : Nat → Nat → Nat → Bool) : Nat → Nat → Nat → Nat → Option (Nat × Nat) × List (Nat × List Nat)
  | 0, _, _, _ => (none, [])
  | f + 1, b, w, k =>
    if n ≤ rn isBl T n k then (none, [])
    else match ptS T n wl bd (full b w) (rn isBl T n k) with
      | (some c, _, _) => (some c, [])
      | (none, _, none) => (none, [])
      | (none, p, some (q, vs)) => ((txP T n wl bd full f (b + 1) (stW q w) p).1, (q, vs) :: (txP T n wl bd full f (b + 1) (stW q w) p).2)
section TXP
variable {T : Nat → Nat} {n k b w q f : Nat} {wl : List (List Nat)} {bd : Nat → List (Nat × Nat)} {full : Nat → Nat → Nat → Bool} {vs : List Nat} {c : Nat × Nat}
theorem tx_e (h : n ≤ rn isBl T n k) : txP T n wl bd full f b w k = (none, []) := by
  cases f with
  | zero => rfl
  | succ f => rw [txP, if_pos h]
theorem tx_f (h : rn isBl T n k < n) (hp : (ptS T n wl bd (full b w) (rn isBl T n k)).1 = some c) : txP T n wl bd full (f + 1) b w k = (some c, []) := by
  rw [txP, if_neg (by omega)]
  rcases hP : ptS T n wl bd (full b w) (rn isBl T n k) with ⟨x, p, y⟩
  rw [hP] at hp
  cases hp
  rfl
theorem tx_o (h : rn isBl T n k < n) (hp : (ptS T n wl bd (full b w) (rn isBl T n k)).1 = none) (hq : (ptS T n wl bd (full b w) (rn isBl T n k)).2.2 = some (q, vs)) : txP T n wl bd full (f + 1) b w k = ((txP T n wl bd full f (b + 1) (stW q w) (ptS T n wl bd (full b w) (rn isBl T n k)).2.1).1, (q, vs) :: (txP T n wl bd full f (b + 1) (stW q w) (ptS T n wl bd (full b w) (rn isBl T n k)).2.1).2) := by
  rw [txP, if_neg (by omega)]
  rcases hP : ptS T n wl bd (full b w) (rn isBl T n k) with ⟨x, p, y⟩
  rw [hP] at hp hq
  cases hp
  cases hq
  rfl
end TXP
def faC : Option (Nat × Nat) → Int32
  | none => 0
  | some c => nI c.1
def faP : Option (Nat × Nat) → Int32
  | none => -1
  | some c => nI c.2
/-- the parts of a text laid into a siege's numbers, one after the other -/
def fdW : List (Nat × List Nat) → Nat → Nat
  | [], w => w
  | a :: L, w => fdW L (stW a.1 w)
def fdD : List (Nat × List Nat) → (Nat → Int32) → (Nat → Int32)
  | [], f => f
  | a :: L, f => fdD L (stD a.1 a.2 f)
def fdN : List (Nat × List Nat) → (Nat → Int32) → (Nat → Int32)
  | [], f => f
  | a :: L, f => fdN L (stN a.1 a.2 f)
def fdT : List (Nat × List Nat) → Nat → (Nat → Int32) → (Nat → Int32)
  | [], _, f => f
  | a :: L, w, f => fdT L (stW a.1 w) (stT a.1 a.2 w f)
def fdM : List (Nat × List Nat) → Nat → (Nat → Int32) → (Nat → Int32)
  | [], _, f => f
  | a :: L, w, f => fdM L (stW a.1 w) (stM a.1 a.2 w f)
def fdRl : List (Nat × List Nat) → (Nat → Int32) → (Nat → Int32)
  | [], f => f
  | a :: L, f => fdRl L (rlD a.1 a.2 f)
def fdB : List (Nat × List Nat) → (Nat → Int32) → (Nat → Int32)
  | [], f => f
  | a :: L, f => fdB L (rlB a.1 a.2 f)
theorem fl6_w {b w q : Nat} (h : fl6 b w q = false) (hw : w ≤ 6) : stW q w ≤ 6 := by
  have := of_decide_eq_false h
  unfold stW
  split
  · omega
  · exact hw
theorem tx_s (j m : Nat) (h : j < m) : m - j = (m - (j + 1)) + 1 := by omega
set_option maxHeartbeats 4000000 in
set_option maxRecDepth 100000 in
theorem p_X7_read6 (l : Launch) (g : he_G) (z0 : Nat) (z1 : Nat) (y0 : Nat) (n : Nat) (y1 : Nat) (n1 : Int32) (at1 : Int32) (fa : Int32) (pl : Int32) (tp : Nat → Int32) (T : Nat → Nat) (nu : Nat → Int32) (p0 : Nat) (p1 : Nat) (p2 : Nat) (p3 : Nat) (p4 : Nat) (w : Nat) (sd : Nat → Int32) (fn : Nat → Int32) (st : Nat → Int32) (me : Nat → Int32) (hn : n ≤ 500) (hw6 : w ≤ 6) (hT : ∀ j, j < n → T j < 256 ∧ tp j = sbI (T j)) : he_I l yX7_read wsX7_read 7 161 0 0 g [.ref z0, .ref y0, .int (nI n), .ref p0] [(oX7 z0 y1 n1 at1 fa pl z1), (aB g y0 500 tp), (aI g z1 3 nu), (oX6 p0 p1 p2 p3 p4 (nI w)), (aI g p1 24 sd), (aI g p2 10 fn), (aI g p3 6 st), (aI g p4 6 me)] (fun (r : Int32) (u : Nat × Int32 × Int32 × (Nat → Int32) × Nat × (Nat → Int32) × (Nat → Int32) × (Nat → Int32) × (Nat → Int32)) => r = u.2.1 ∧ u.2.1 = faC (txP T n wl6 bd6 fl6 61 0 w 0).1 ∧ u.2.2.1 = faP (txP T n wl6 bd6 fl6 61 0 w 0).1 ∧ u.2.2.2.2.1 = fdW (txP T n wl6 bd6 fl6 61 0 w 0).2 w ∧ u.2.2.2.2.2.1 = fdD (txP T n wl6 bd6 fl6 61 0 w 0).2 sd ∧ u.2.2.2.2.2.2.1 = fdN (txP T n wl6 bd6 fl6 61 0 w 0).2 fn ∧ u.2.2.2.2.2.2.2.1 = fdT (txP T n wl6 bd6 fl6 61 0 w 0).2 w st ∧ u.2.2.2.2.2.2.2.2 = fdM (txP T n wl6 bd6 fl6 61 0 w 0).2 w me ∧ u.2.2.2.2.1 ≤ 6) (fun (u : Nat × Int32 × Int32 × (Nat → Int32) × Nat × (Nat → Int32) × (Nat → Int32) × (Nat → Int32) × (Nat → Int32)) => [(oX7 z0 y0 (nI n) (nI u.1) u.2.1 u.2.2.1 z1), (aB g y0 500 tp), (aI g z1 3 u.2.2.2.1), (oX6 p0 p1 p2 p3 p4 (nI u.2.2.2.2.1)), (aI g p1 24 u.2.2.2.2.2.1), (aI g p2 10 u.2.2.2.2.2.2.1), (aI g p3 6 u.2.2.2.2.2.2.2.1), (aI g p4 6 u.2.2.2.2.2.2.2.2)]) := by
  refine he_begin (l := l) (g := g) (y := yX7_read) (wl := wsX7_read) (fr := 7) (lo := 161) (mc := 0) (ms := 0) (av := [.ref z0, .ref y0, .int (nI n), .ref p0]) (ws := [(oX7 z0 y1 n1 at1 fa pl z1), (aB g y0 500 tp), (aI g z1 3 nu), (oX6 p0 p1 p2 p3 p4 (nI w)), (aI g p1 24 sd), (aI g p2 10 fn), (aI g p3 6 st), (aI g p4 6 me)]) (cc := cX7_read) (maxL := 5) (ret := (some .int)) (fun A => va_Qi (fun (r : Int32) (u : Nat × Int32 × Int32 × (Nat → Int32) × Nat × (Nat → Int32) × (Nat → Int32) × (Nat → Int32) × (Nat → Int32)) => r = u.2.1 ∧ u.2.1 = faC (txP T n wl6 bd6 fl6 61 0 w 0).1 ∧ u.2.2.1 = faP (txP T n wl6 bd6 fl6 61 0 w 0).1 ∧ u.2.2.2.2.1 = fdW (txP T n wl6 bd6 fl6 61 0 w 0).2 w ∧ u.2.2.2.2.2.1 = fdD (txP T n wl6 bd6 fl6 61 0 w 0).2 sd ∧ u.2.2.2.2.2.2.1 = fdN (txP T n wl6 bd6 fl6 61 0 w 0).2 fn ∧ u.2.2.2.2.2.2.2.1 = fdT (txP T n wl6 bd6 fl6 61 0 w 0).2 w st ∧ u.2.2.2.2.2.2.2.2 = fdM (txP T n wl6 bd6 fl6 61 0 w 0).2 w me ∧ u.2.2.2.2.1 ≤ 6) (fun u t => he_post g A ((fun (u : Nat × Int32 × Int32 × (Nat → Int32) × Nat × (Nat → Int32) × (Nat → Int32) × (Nat → Int32) × (Nat → Int32)) => [(oX7 z0 y0 (nI n) (nI u.1) u.2.1 u.2.2.1 z1), (aB g y0 500 tp), (aI g z1 3 u.2.2.2.1), (oX6 p0 p1 p2 p3 p4 (nI u.2.2.2.2.1)), (aI g p1 24 u.2.2.2.2.2.1), (aI g p2 10 u.2.2.2.2.2.2.1), (aI g p3 6 u.2.2.2.2.2.2.2.1), (aI g p4 6 u.2.2.2.2.2.2.2.2)]) u) t) A) (by decide) rfl (Nat.le_of_ble_eq_true rfl) ?_
  intro p e s m args below meth c A ls H locs Q hQ hB
  obtain ⟨hx, hb, hr, hml, hown, hts, hlk, hin, hP, hK, hD, hS, hA, hE, hl⟩ := hB
  have hl : lv_has ls 5 [(0, .ref z0), (1, .ref y0), (2, .int (nI n)), (3, .ref p0)] := hl
  have f9 := hts (.fieldLink RX7 9 "HiredEnemy$Reader" "bytes" "[B") (iwoX7_read (k := 0) rfl)
  have inX7 : ∀ w ∈ wsX70, w ∈ wsX7_read := innX7_read_X7
  have ml23 := hts (.methodLink RX7 23 Lib.Math.min.name) (iwoX7_read (k := 1) rfl)
  have msmin := hts (.static Lib.Math.min.name) (iwoX7_read (k := 2) rfl)
  have mi := hts (.initialized "java/lang/Math") (iwoX7_read (k := 3) rfl)
  have mcmin := hts (.code Lib.Math.min.name Lib.Math.min.code 2 (some .int)) (by decide +kernel)
  have f29 := hts (.fieldLink RX7 29 "HiredEnemy$Reader" "length" "I") (iwoX7_read (k := 4) rfl)
  have f32 := hts (.fieldLink RX7 32 "HiredEnemy$Reader" "at" "I") (iwoX7_read (k := 5) rfl)
  have f35 := hts (.fieldLink RX7 35 "HiredEnemy$Reader" "fault" "I") (iwoX7_read (k := 6) rfl)
  have f15 := hts (.fieldLink RX7 15 "HiredEnemy$Reader" "place" "I") (iwoX7_read (k := 7) rfl)
  have dc38 := hE.decl ⟨RX9, "mostParts", "()I"⟩ (by decide +kernel)
  refine lv_aload_n hx hb dX7_read_0 rfl (lv_at hl 0 rfl) ?_
  refine lv_aload_n hx hb dX7_read_1 rfl (lv_at hl 1 rfl) ?_
  refine va_put (v := .ref y0) (ty := tyX7 0) (T := TX7) (N := 6) hx hb hts inX7 tyX7 tyX7_ok nmX7 hown hK hP hD hS 0 rfl rfl 0 (by decide) f9 (fun _ h9 => h9) rfl (by decide +kernel) rfl rfl (Nat.le_of_ble_eq_true rfl) dX7_read_2 (fun H locs hP hD hS => ?_)
  have hP : va_P g.1 vwCl [(oX7 z0 y0 n1 at1 fa pl z1), (aB g y0 500 tp), (aI g z1 3 nu), (oX6 p0 p1 p2 p3 p4 (nI w)), (aI g p1 24 sd), (aI g p2 10 fn), (aI g p3 6 st), (aI g p4 6 me)] H := hP
  have hD : va_D A [(oX7 z0 y0 n1 at1 fa pl z1), (aB g y0 500 tp), (aI g z1 3 nu), (oX6 p0 p1 p2 p3 p4 (nI w)), (aI g p1 24 sd), (aI g p2 10 fn), (aI g p3 6 st), (aI g p4 6 me)] := hD
  refine lv_aload_n hx hb dX7_read_5 rfl (lv_at hl 0 rfl) ?_
  refine lv_iload_n hx hb dX7_read_6 rfl (lv_at hl 2 rfl) ?_
  refine lv_aload_n hx hb dX7_read_7 rfl (lv_at hl 1 rfl) ?_
  refine va_alen (v := 500) hx hb hK hP 1 0 rfl rfl rfl dX7_read_8 ?_
  refine va_mmin hx hb (by rw [hml]; exact hl.1.symm) hown ml23 msmin mi mcmin (by decide) (Nat.le_of_ble_eq_true rfl) (Nat.le_of_ble_eq_true rfl) (Nat.le_of_ble_eq_true rfl) dX7_read_9 ?_
  refine he_top (nI n) (he_min500 hn) ?_
  refine va_put (v := .int (nI n)) (ty := .int) (T := TX7) (N := 6) hx hb hts inX7 tyX7 tyX7_ok nmX7 hown hK hP hD hS 0 rfl rfl 1 (by decide) f29 (fun _ h9 => h9) rfl (by decide +kernel) rfl rfl (Nat.le_of_ble_eq_true rfl) dX7_read_12 (fun H locs hP hD hS => ?_)
  have hP : va_P g.1 vwCl [(oX7 z0 y0 (nI n) at1 fa pl z1), (aB g y0 500 tp), (aI g z1 3 nu), (oX6 p0 p1 p2 p3 p4 (nI w)), (aI g p1 24 sd), (aI g p2 10 fn), (aI g p3 6 st), (aI g p4 6 me)] H := hP
  have hD : va_D A [(oX7 z0 y0 (nI n) at1 fa pl z1), (aB g y0 500 tp), (aI g z1 3 nu), (oX6 p0 p1 p2 p3 p4 (nI w)), (aI g p1 24 sd), (aI g p2 10 fn), (aI g p3 6 st), (aI g p4 6 me)] := hD
  refine lv_aload_n hx hb dX7_read_15 rfl (lv_at hl 0 rfl) ?_
  refine lv_iconst (v := 0) hx hb dX7_read_16 (by decide) ?_
  refine va_put (v := .int 0) (ty := .int) (T := TX7) (N := 6) hx hb hts inX7 tyX7 tyX7_ok nmX7 hown hK hP hD hS 0 rfl rfl 2 (by decide) f32 (fun _ h9 => h9) rfl (by decide +kernel) rfl rfl (Nat.le_of_ble_eq_true rfl) dX7_read_17 (fun H locs hP hD hS => ?_)
  have hP : va_P g.1 vwCl [(oX7 z0 y0 (nI n) 0 fa pl z1), (aB g y0 500 tp), (aI g z1 3 nu), (oX6 p0 p1 p2 p3 p4 (nI w)), (aI g p1 24 sd), (aI g p2 10 fn), (aI g p3 6 st), (aI g p4 6 me)] H := hP
  have hD : va_D A [(oX7 z0 y0 (nI n) 0 fa pl z1), (aB g y0 500 tp), (aI g z1 3 nu), (oX6 p0 p1 p2 p3 p4 (nI w)), (aI g p1 24 sd), (aI g p2 10 fn), (aI g p3 6 st), (aI g p4 6 me)] := hD
  refine lv_aload_n hx hb dX7_read_20 rfl (lv_at hl 0 rfl) ?_
  refine lv_iconst (v := 0) hx hb dX7_read_21 (by decide) ?_
  refine va_put (v := .int 0) (ty := .int) (T := TX7) (N := 6) hx hb hts inX7 tyX7 tyX7_ok nmX7 hown hK hP hD hS 0 rfl rfl 3 (by decide) f35 (fun _ h9 => h9) rfl (by decide +kernel) rfl rfl (Nat.le_of_ble_eq_true rfl) dX7_read_22 (fun H locs hP hD hS => ?_)
  have hP : va_P g.1 vwCl [(oX7 z0 y0 (nI n) 0 0 pl z1), (aB g y0 500 tp), (aI g z1 3 nu), (oX6 p0 p1 p2 p3 p4 (nI w)), (aI g p1 24 sd), (aI g p2 10 fn), (aI g p3 6 st), (aI g p4 6 me)] H := hP
  have hD : va_D A [(oX7 z0 y0 (nI n) 0 0 pl z1), (aB g y0 500 tp), (aI g z1 3 nu), (oX6 p0 p1 p2 p3 p4 (nI w)), (aI g p1 24 sd), (aI g p2 10 fn), (aI g p3 6 st), (aI g p4 6 me)] := hD
  refine lv_aload_n hx hb dX7_read_25 rfl (lv_at hl 0 rfl) ?_
  refine lv_iconst (v := (-1)) hx hb dX7_read_26 (by decide) ?_
  refine va_put (v := .int (-1)) (ty := .int) (T := TX7) (N := 6) hx hb hts inX7 tyX7 tyX7_ok nmX7 hown hK hP hD hS 0 rfl rfl 4 (by decide) f15 (fun _ h9 => h9) rfl (by decide +kernel) rfl rfl (Nat.le_of_ble_eq_true rfl) dX7_read_27 (fun H locs hP hD hS => ?_)
  have hP : va_P g.1 vwCl [(oX7 z0 y0 (nI n) 0 0 (-1) z1), (aB g y0 500 tp), (aI g z1 3 nu), (oX6 p0 p1 p2 p3 p4 (nI w)), (aI g p1 24 sd), (aI g p2 10 fn), (aI g p3 6 st), (aI g p4 6 me)] H := hP
  have hD : va_D A [(oX7 z0 y0 (nI n) 0 0 (-1) z1), (aB g y0 500 tp), (aI g z1 3 nu), (oX6 p0 p1 p2 p3 p4 (nI w)), (aI g p1 24 sd), (aI g p2 10 fn), (aI g p3 6 st), (aI g p4 6 me)] := hD
  refine lv_iconst (v := 0) hx hb dX7_read_30 (by decide) ?_
  refine lv_istore (lv' := [(4, .int 0), (0, .ref z0), (1, .ref y0), (2, .int (nI n)), (3, .ref p0)]) hx hb dX7_read_31 hl (by decide) rfl (fun ls hl => ?_)
  have loop33 : ∀ (n9 : Nat) (j : Nat) (kj : Nat) (nj : Nat → Int32) (wj : Nat) (sj : Nat → Int32) (fj2 : Nat → Int32) (tj : Nat → Int32) (mj : Nat → Int32), 61 - j < n9 → (j ≤ 61) → (kj ≤ n) → (wj ≤ 6) → ((txP T n wl6 bd6 fl6 (61 - j) j wj kj).1 = (txP T n wl6 bd6 fl6 61 0 w 0).1) → (fdW (txP T n wl6 bd6 fl6 (61 - j) j wj kj).2 wj = fdW (txP T n wl6 bd6 fl6 61 0 w 0).2 w) → (fdD (txP T n wl6 bd6 fl6 (61 - j) j wj kj).2 sj = fdD (txP T n wl6 bd6 fl6 61 0 w 0).2 sd) → (fdN (txP T n wl6 bd6 fl6 (61 - j) j wj kj).2 fj2 = fdN (txP T n wl6 bd6 fl6 61 0 w 0).2 fn) → (fdT (txP T n wl6 bd6 fl6 (61 - j) j wj kj).2 wj tj = fdT (txP T n wl6 bd6 fl6 61 0 w 0).2 w st) → (fdM (txP T n wl6 bd6 fl6 (61 - j) j wj kj).2 wj mj = fdM (txP T n wl6 bd6 fl6 61 0 w 0).2 w me) → ∀ (H : Heap) (locs : List Loc) (ls : Array Slot), va_P g.1 vwCl [(oX7 z0 y0 (nI n) (nI kj) 0 (-1) z1), (aB g y0 500 tp), (aI g z1 3 nj), (oX6 p0 p1 p2 p3 p4 (nI wj)), (aI g p1 24 sj), (aI g p2 10 fj2), (aI g p3 6 tj), (aI g p4 6 mj)] H → va_D A [(oX7 z0 y0 (nI n) (nI kj) 0 (-1) z1), (aB g y0 500 tp), (aI g z1 3 nj), (oX6 p0 p1 p2 p3 p4 (nI wj)), (aI g p1 24 sj), (aI g p2 10 fj2), (aI g p3 6 tj), (aI g p4 6 mj)] → va_S A s.heap H locs → lv_has ls 5 [(0, .ref z0), (3, .ref p0), (4, .int (nI j))] → W p l e (he_room 7 161 0 0) s m args below meth c H locs 0 0 Q (F0 m 33 ls []) := by
    intro n9
    induction n9 with
    | zero => intro j kj nj wj sj fj2 tj mj hm9; exact absurd hm9 (Nat.not_lt_zero _)
    | succ n9 ih33 =>
      intro j kj nj wj sj fj2 tj mj hm9 hj hkn hwj hX1 hXuw hXud hXun hXut hXum H locs ls hP hD hS hl
      refine lv_iload hx hb dX7_read_33 (lv_at hl 2 rfl) ?_
      refine lv_aload_n hx hb dX7_read_35 rfl (lv_at hl 1 rfl) ?_
      refine he_ci (wc := [(oX6 p0 p1 p2 p3 p4 (nI wj))]) (wr := [(oX7 z0 y0 (nI n) (nI kj) 0 (-1) z1), (aB g y0 500 tp), (aI g z1 3 nj), (aI g p1 24 sj), (aI g p2 10 fj2), (aI g p3 6 tj), (aI g p4 6 mj)]) (va_runU (As := []) (rest := [.int (nI j)]) ⟨hx, hb, hml, hown, hts⟩ (c_X6_mostParts l g p0 p1 p2 p3 p4 (nI wj) H.size) (va_cwA 0 hts gX7_read_X6_mostParts_u38X6 rfl rfl rfl dc38 (by decide +kernel) ⟨Nat.le_of_ble_eq_true rfl, Nat.le_of_ble_eq_true rfl⟩) (he_preV (wc := [(oX6 p0 p1 p2 p3 p4 (nI wj))]) hK hP hD hS hA hE [3] rfl rfl 3 rfl rfl) rfl rfl hl.1 rfl (lv_room (Nat.le_of_ble_eq_true rfl)) dX7_read_36 ⟨(Nat.le_of_ble_eq_true rfl), (Nat.le_of_ble_eq_true rfl)⟩) hP hD hS hA [3] [0, 1, 2, 4, 5, 6, 7] rfl rfl rfl (by decide) (fun r_1 u_2 H locs h_3 hP hD hS => ?_)
      subst h_3
      have hP : va_P g.1 vwCl [(oX7 z0 y0 (nI n) (nI kj) 0 (-1) z1), (aB g y0 500 tp), (aI g z1 3 nj), (aI g p1 24 sj), (aI g p2 10 fj2), (aI g p3 6 tj), (aI g p4 6 mj), (oX6 p0 p1 p2 p3 p4 (nI wj))] H := hP
      have hD : va_D A [(oX7 z0 y0 (nI n) (nI kj) 0 (-1) z1), (aB g y0 500 tp), (aI g z1 3 nj), (aI g p1 24 sj), (aI g p2 10 fj2), (aI g p3 6 tj), (aI g p4 6 mj), (oX6 p0 p1 p2 p3 p4 (nI wj))] := hD
      refine lv_icmp_gt (tgt := 76) hx hb dX7_read_39 (by decide) (fun c_4 => ?_) (fun c_4 => ?_)
      · have k_5 : 60 < j := (he_clt (a := 60) (b := j) (by decide) rfl (by omega) (by omega)).mp c_4
        refine lv_aload_n hx hb dX7_read_76 rfl (lv_at hl 0 rfl) ?_
        refine va_get (v := .int 0) (T := TX7) (N := 6) hx hb hts inX7 hown hK hP 0 rfl rfl 3 (by decide) f35 (fun _ h9 => h9) rfl dX7_read_77 ?_
        have hP := hP.sub (ws' := [(oX7 z0 y0 (nI n) (nI kj) 0 (-1) z1), (aB g y0 500 tp), (aI g z1 3 nj), (oX6 p0 p1 p2 p3 p4 (nI wj)), (aI g p1 24 sj), (aI g p2 10 fj2), (aI g p3 6 tj), (aI g p4 6 mj)]) [0, 1, 2, 7, 3, 4, 5, 6] rfl
        have hD := hD.sub (ws' := [(oX7 z0 y0 (nI n) (nI kj) 0 (-1) z1), (aB g y0 500 tp), (aI g z1 3 nj), (oX6 p0 p1 p2 p3 p4 (nI wj)), (aI g p1 24 sj), (aI g p2 10 fj2), (aI g p3 6 tj), (aI g p4 6 mj)]) [0, 1, 2, 7, 3, 4, 5, 6] (by decide) rfl
        exact he_ri hQ hx hb hr hlk hP hD hS dX7_read_80 (Nat.le_of_ble_eq_true rfl) (Nat.le_of_ble_eq_true rfl) ((kj, 0, (-1), nj, wj, sj, fj2, tj, mj)) (rfl) ((by have e9 : (txP T n wl6 bd6 fl6 (61 - j) j wj kj) = (none, []) := (by (try dsimp only); rw [show 61 - j = 0 by (try dsimp only); omega]; rfl); rw [e9] at hX1 hXuw hXud hXun hXut hXum; exact ⟨rfl, by rw [← hX1]; rfl, by rw [← hX1]; rfl, hXuw, hXud, hXun, hXut, hXum, hwj⟩))
      · have k_6 : ¬ (60 < j) := fun h9 => c_4 ((he_clt (a := 60) (b := j) (by decide) rfl (by omega) (by omega)).mpr h9)
        refine lv_aload_n hx hb dX7_read_42 rfl (lv_at hl 0 rfl) ?_
        refine he_cv (wc := [(oX7 z0 y0 (nI n) (nI kj) 0 (-1) z1), (aB g y0 500 tp)]) (wr := [(aI g z1 3 nj), (aI g p1 24 sj), (aI g p2 10 fj2), (aI g p3 6 tj), (aI g p4 6 mj), (oX6 p0 p1 p2 p3 p4 (nI wj))]) (va_runV (As := []) (rest := []) ⟨hx, hb, hml, hown, hts⟩ (p_X7_skipBlanks l g z0 z1 y0 n kj 0 (-1) tp T (by first | assumption | decide | omega) (by first | assumption | decide | omega) (by first | assumption | decide | omega) H.size) (cwV 0 hts gX7_read_X7_skipBlanks rfl rfl rfl (by decide +kernel) ⟨Nat.le_of_ble_eq_true rfl, Nat.le_of_ble_eq_true rfl⟩) (he_preV (wc := [(oX7 z0 y0 (nI n) (nI kj) 0 (-1) z1), (aB g y0 500 tp)]) hK hP hD hS hA hE [0, 1] rfl rfl 0 rfl rfl) rfl rfl hl.1 rfl (lv_room (Nat.le_of_ble_eq_true rfl)) dX7_read_43 ⟨(Nat.le_of_ble_eq_true rfl), (Nat.le_of_ble_eq_true rfl)⟩) hP hD hS hA [0, 1] [2, 3, 4, 5, 6, 7] rfl rfl rfl (by decide) (fun u_8 H locs h_9 hP hD hS => ?_)
        have hP : va_P g.1 vwCl [(aI g z1 3 nj), (aI g p1 24 sj), (aI g p2 10 fj2), (aI g p3 6 tj), (aI g p4 6 mj), (oX6 p0 p1 p2 p3 p4 (nI wj)), (oX7 z0 y0 (nI n) (nI (rn isBl T n kj)) 0 (-1) z1), (aB g y0 500 tp)] H := hP
        have hD : va_D A [(aI g z1 3 nj), (aI g p1 24 sj), (aI g p2 10 fj2), (aI g p3 6 tj), (aI g p4 6 mj), (oX6 p0 p1 p2 p3 p4 (nI wj)), (oX7 z0 y0 (nI n) (nI (rn isBl T n kj)) 0 (-1) z1), (aB g y0 500 tp)] := hD
        have hrn9 : rn isBl T n kj ≤ n := rn_le hkn
        refine lv_aload_n hx hb dX7_read_46 rfl (lv_at hl 0 rfl) ?_
        refine va_get (v := .int (nI (rn isBl T n kj))) (T := TX7) (N := 6) hx hb hts inX7 hown hK hP 6 rfl rfl 2 (by decide) f32 (fun _ h9 => h9) rfl dX7_read_47 ?_
        refine lv_aload_n hx hb dX7_read_50 rfl (lv_at hl 0 rfl) ?_
        refine va_get (v := .int (nI n)) (T := TX7) (N := 6) hx hb hts inX7 hown hK hP 6 rfl rfl 1 (by decide) f29 (fun _ h9 => h9) rfl dX7_read_51 ?_
        refine lv_icmp_ge (tgt := 76) hx hb dX7_read_54 (by decide) (fun c_10 => ?_) (fun c_10 => ?_)
        · have k_11 : n ≤ rn isBl T n kj := (he_cle (a := n) (b := rn isBl T n kj) rfl rfl (by omega) (by omega)).mp c_10
          refine lv_aload_n hx hb dX7_read_76 rfl (lv_at hl 0 rfl) ?_
          refine va_get (v := .int 0) (T := TX7) (N := 6) hx hb hts inX7 hown hK hP 6 rfl rfl 3 (by decide) f35 (fun _ h9 => h9) rfl dX7_read_77 ?_
          have hP := hP.sub (ws' := [(oX7 z0 y0 (nI n) (nI (rn isBl T n kj)) 0 (-1) z1), (aB g y0 500 tp), (aI g z1 3 nj), (oX6 p0 p1 p2 p3 p4 (nI wj)), (aI g p1 24 sj), (aI g p2 10 fj2), (aI g p3 6 tj), (aI g p4 6 mj)]) [6, 7, 0, 5, 1, 2, 3, 4] rfl
          have hD := hD.sub (ws' := [(oX7 z0 y0 (nI n) (nI (rn isBl T n kj)) 0 (-1) z1), (aB g y0 500 tp), (aI g z1 3 nj), (oX6 p0 p1 p2 p3 p4 (nI wj)), (aI g p1 24 sj), (aI g p2 10 fj2), (aI g p3 6 tj), (aI g p4 6 mj)]) [6, 7, 0, 5, 1, 2, 3, 4] (by decide) rfl
          exact he_ri hQ hx hb hr hlk hP hD hS dX7_read_80 (Nat.le_of_ble_eq_true rfl) (Nat.le_of_ble_eq_true rfl) ((rn isBl T n kj, 0, (-1), nj, wj, sj, fj2, tj, mj)) (rfl) ((by have e9 : (txP T n wl6 bd6 fl6 (61 - j) j wj kj) = (none, []) := tx_e (by (try dsimp only); omega); rw [e9] at hX1 hXuw hXud hXun hXut hXum; exact ⟨rfl, by rw [← hX1]; rfl, by rw [← hX1]; rfl, hXuw, hXud, hXun, hXut, hXum, hwj⟩))
        · have k_12 : ¬ (n ≤ rn isBl T n kj) := fun h9 => c_10 ((he_cle (a := n) (b := rn isBl T n kj) rfl rfl (by omega) (by omega)).mpr h9)
          have hlt9 : rn isBl T n kj < n := by omega
          refine lv_aload_n hx hb dX7_read_57 rfl (lv_at hl 0 rfl) ?_
          refine lv_aload_n hx hb dX7_read_58 rfl (lv_at hl 1 rfl) ?_
          refine lv_iload hx hb dX7_read_59 (lv_at hl 2 rfl) ?_
          refine he_ci (wc := [(oX7 z0 y0 (nI n) (nI (rn isBl T n kj)) 0 (-1) z1), (aB g y0 500 tp), (aI g z1 3 nj), (oX6 p0 p1 p2 p3 p4 (nI wj)), (aI g p1 24 sj), (aI g p2 10 fj2), (aI g p3 6 tj), (aI g p4 6 mj)]) (wr := []) (va_runV (As := [.ref p0, .int (nI j)]) (rest := []) ⟨hx, hb, hml, hown, hts⟩ (p_X7_readPart6 l g z0 z1 y0 n (rn isBl T n kj) 0 (-1) tp T nj p0 p1 p2 p3 p4 wj sj fj2 tj mj j (rn_le hkn) (by first | assumption | decide | omega) (by first | assumption | decide | omega) (by first | assumption | decide | omega) (by omega) H.size) (cwV 2 hts gX7_read_X7_readPart rfl rfl rfl (by decide +kernel) ⟨Nat.le_of_ble_eq_true rfl, Nat.le_of_ble_eq_true rfl⟩) (he_preV (wc := [(oX7 z0 y0 (nI n) (nI (rn isBl T n kj)) 0 (-1) z1), (aB g y0 500 tp), (aI g z1 3 nj), (oX6 p0 p1 p2 p3 p4 (nI wj)), (aI g p1 24 sj), (aI g p2 10 fj2), (aI g p3 6 tj), (aI g p4 6 mj)]) hK hP hD hS hA hE [6, 7, 0, 5, 1, 2, 3, 4] rfl rfl 6 rfl rfl) rfl rfl hl.1 rfl (lv_room (Nat.le_of_ble_eq_true rfl)) dX7_read_61 ⟨(Nat.le_of_ble_eq_true rfl), (Nat.le_of_ble_eq_true rfl)⟩) hP hD hS hA [6, 7, 0, 5, 1, 2, 3, 4] [] rfl rfl rfl (by decide) (fun r_13 u_14 H locs h_15 hP hD hS => ?_)
          obtain ⟨k2_16, fb_17, pb_18, nv_19, uw_20, ud_21, un_22, ut_23, um_24⟩ := u_14
          try dsimp only at h_15
          obtain ⟨hf_25, hf_26⟩ := h_15
          have hP : va_P g.1 vwCl [(oX7 z0 y0 (nI n) (nI k2_16) fb_17 pb_18 z1), (aB g y0 500 tp), (aI g z1 3 nv_19), (oX6 p0 p1 p2 p3 p4 (nI uw_20)), (aI g p1 24 ud_21), (aI g p2 10 un_22), (aI g p3 6 ut_23), (aI g p4 6 um_24)] H := hP
          have hD : va_D A [(oX7 z0 y0 (nI n) (nI k2_16) fb_17 pb_18 z1), (aB g y0 500 tp), (aI g z1 3 nv_19), (oX6 p0 p1 p2 p3 p4 (nI uw_20)), (aI g p1 24 ud_21), (aI g p2 10 un_22), (aI g p3 6 ut_23), (aI g p4 6 um_24)] := hD
          have hk2 := hf_25
          rcases hf_26 with ⟨c9, p9, hp1, hr9, hf9, hp9, hu0, hu1, hu2, hu3, hu4⟩ | ⟨q9, vs, hp1, hp2, hr9, hf9, hp9, hu0, hu1, hu2, hu3, hu4⟩
          · subst k2_16 r_13 fb_17 pb_18 uw_20 ud_21 un_22 ut_23 um_24
            have hP : va_P g.1 vwCl [(oX7 z0 y0 (nI n) (nI ((ptS T n wl6 bd6 (fl6 j wj) (rn isBl T n kj)).2.1)) (nI c9) (nI p9) z1), (aB g y0 500 tp), (aI g z1 3 nv_19), (oX6 p0 p1 p2 p3 p4 (nI wj)), (aI g p1 24 sj), (aI g p2 10 fj2), (aI g p3 6 tj), (aI g p4 6 mj)] H := hP
            have hD : va_D A [(oX7 z0 y0 (nI n) (nI ((ptS T n wl6 bd6 (fl6 j wj) (rn isBl T n kj)).2.1)) (nI c9) (nI p9) z1), (aB g y0 500 tp), (aI g z1 3 nv_19), (oX6 p0 p1 p2 p3 p4 (nI wj)), (aI g p1 24 sj), (aI g p2 10 fj2), (aI g p3 6 tj), (aI g p4 6 mj)] := hD
            refine lv_if_ne (tgt := 70) hx hb dX7_read_64 (by decide) (fun c_27 => ?_) (fun c_27 => ?_)
            · exact absurd (by decide) c_27
            · refine lv_goto (tgt := 76) hx hb dX7_read_67 (by decide) ?_
              refine lv_aload_n hx hb dX7_read_76 rfl (lv_at hl 0 rfl) ?_
              refine va_get (v := .int (nI c9)) (T := TX7) (N := 6) hx hb hts inX7 hown hK hP 0 rfl rfl 3 (by decide) f35 (fun _ h9 => h9) rfl dX7_read_77 ?_
              exact he_ri hQ hx hb hr hlk hP hD hS dX7_read_80 (Nat.le_of_ble_eq_true rfl) (Nat.le_of_ble_eq_true rfl) ((((ptS T n wl6 bd6 (fl6 j wj) (rn isBl T n kj)).2.1), nI c9, nI p9, nv_19, wj, sj, fj2, tj, mj)) (rfl) ((by have e9 : (txP T n wl6 bd6 fl6 (61 - j) j wj kj) = (some (c9, p9), []) := (by (try dsimp only); rw [tx_s j 61 (by (try dsimp only); omega)]; exact tx_f hlt9 hp1); rw [e9] at hX1 hXuw hXud hXun hXut hXum; exact ⟨rfl, by rw [← hX1]; rfl, by rw [← hX1]; rfl, hXuw, hXud, hXun, hXut, hXum, hwj⟩))
          · subst k2_16 r_13 fb_17 pb_18 uw_20 ud_21 un_22 ut_23 um_24
            obtain ⟨_, _, hq8, _, hq9⟩ := pt_q hp2
            have e9 := tx_o (full := fl6) (b := j) (w := wj) (f := 61 - (j + 1)) hlt9 hp1 hp2
            rw [← tx_s j 61 (by omega)] at e9
            rw [e9] at hX1 hXuw hXud hXun hXut hXum
            have hP : va_P g.1 vwCl [(oX7 z0 y0 (nI n) (nI ((ptS T n wl6 bd6 (fl6 j wj) (rn isBl T n kj)).2.1)) 0 (-1) z1), (aB g y0 500 tp), (aI g z1 3 nv_19), (oX6 p0 p1 p2 p3 p4 (nI (stW q9 wj))), (aI g p1 24 (stD q9 vs sj)), (aI g p2 10 (stN q9 vs fj2)), (aI g p3 6 (stT q9 vs wj tj)), (aI g p4 6 (stM q9 vs wj mj))] H := hP
            have hD : va_D A [(oX7 z0 y0 (nI n) (nI ((ptS T n wl6 bd6 (fl6 j wj) (rn isBl T n kj)).2.1)) 0 (-1) z1), (aB g y0 500 tp), (aI g z1 3 nv_19), (oX6 p0 p1 p2 p3 p4 (nI (stW q9 wj))), (aI g p1 24 (stD q9 vs sj)), (aI g p2 10 (stN q9 vs fj2)), (aI g p3 6 (stT q9 vs wj tj)), (aI g p4 6 (stM q9 vs wj mj))] := hD
            refine lv_if_ne (tgt := 70) hx hb dX7_read_64 (by decide) (fun c_28 => ?_) (fun c_28 => ?_)
            · refine lv_iinc (v := nI (j + 1)) (lv' := [(4, .int (nI (j + 1))), (0, .ref z0), (3, .ref p0)]) hx hb dX7_read_70 hl (k := 2) rfl (nI_1 j) (by decide) rfl (fun ls hl => ?_)
              refine lv_goto (tgt := 33) hx hb dX7_read_73 (by decide) ?_
              exact ih33 (j + 1) ((ptS T n wl6 bd6 (fl6 j wj) (rn isBl T n kj)).2.1) nv_19 (stW q9 wj) (stD q9 vs sj) (stN q9 vs fj2) (stT q9 vs wj tj) (stM q9 vs wj mj) (by omega) (by omega) hq9 (fl6_w hq8 hwj) hX1 hXuw hXud hXun hXut hXum _ _ _ hP hD hS (lv_sub hl [1, 2, 0] rfl)
            · exact absurd c_28 (by decide)
  exact loop33 ((61 - 0) + 1) 0 0 nu w sd fn st me (Nat.lt_succ_self _) (Nat.zero_le _) (Nat.zero_le _) hw6 rfl rfl rfl rfl rfl rfl _ _ _ hP hD hS (lv_sub hl [1, 4, 0] rfl)
set_option maxHeartbeats 4000000 in
set_option maxRecDepth 100000 in
theorem p_X7_read5 (l : Launch) (g : he_G) (z0 : Nat) (z1 : Nat) (y0 : Nat) (n : Nat) (y1 : Nat) (n1 : Int32) (at1 : Int32) (fa : Int32) (pl : Int32) (tp : Nat → Int32) (T : Nat → Nat) (nu : Nat → Int32) (t0 : Nat) (t1 : Nat) (t2 : Nat) (w : Nat) (pd : Nat → Int32) (wb : Nat → Int32) (hn : n ≤ 500) (hw6 : w ≤ 6) (hT : ∀ j, j < n → T j < 256 ∧ tp j = sbI (T j)) : he_I l yX7_read wsX7_read 7 161 0 0 g [.ref z0, .ref y0, .int (nI n), .ref t0] [(oX7 z0 y1 n1 at1 fa pl z1), (aB g y0 500 tp), (aI g z1 3 nu), (oX5 t0 t1 t2 (nI w)), (aI g t1 6 pd), (aI g t2 36 wb)] (fun (r : Int32) (u : Nat × Int32 × Int32 × (Nat → Int32) × (Nat → Int32) × (Nat → Int32)) => r = u.2.1 ∧ (u.2.1 = faC (txP T n wl5 (bd5 w) (fun b _ => fl5 b) 21 0 0 0).1) ∧ (u.2.2.1 = faP (txP T n wl5 (bd5 w) (fun b _ => fl5 b) 21 0 0 0).1) ∧ (u.2.2.2.2.1 = fdRl (txP T n wl5 (bd5 w) (fun b _ => fl5 b) 21 0 0 0).2 pd) ∧ (u.2.2.2.2.2 = fdB (txP T n wl5 (bd5 w) (fun b _ => fl5 b) 21 0 0 0).2 wb)) (fun (u : Nat × Int32 × Int32 × (Nat → Int32) × (Nat → Int32) × (Nat → Int32)) => [(oX7 z0 y0 (nI n) (nI u.1) u.2.1 u.2.2.1 z1), (aB g y0 500 tp), (aI g z1 3 u.2.2.2.1), (oX5 t0 t1 t2 (nI w)), (aI g t1 6 u.2.2.2.2.1), (aI g t2 36 u.2.2.2.2.2)]) := by
  refine he_begin (l := l) (g := g) (y := yX7_read) (wl := wsX7_read) (fr := 7) (lo := 161) (mc := 0) (ms := 0) (av := [.ref z0, .ref y0, .int (nI n), .ref t0]) (ws := [(oX7 z0 y1 n1 at1 fa pl z1), (aB g y0 500 tp), (aI g z1 3 nu), (oX5 t0 t1 t2 (nI w)), (aI g t1 6 pd), (aI g t2 36 wb)]) (cc := cX7_read) (maxL := 5) (ret := (some .int)) (fun A => va_Qi (fun (r : Int32) (u : Nat × Int32 × Int32 × (Nat → Int32) × (Nat → Int32) × (Nat → Int32)) => r = u.2.1 ∧ (u.2.1 = faC (txP T n wl5 (bd5 w) (fun b _ => fl5 b) 21 0 0 0).1) ∧ (u.2.2.1 = faP (txP T n wl5 (bd5 w) (fun b _ => fl5 b) 21 0 0 0).1) ∧ (u.2.2.2.2.1 = fdRl (txP T n wl5 (bd5 w) (fun b _ => fl5 b) 21 0 0 0).2 pd) ∧ (u.2.2.2.2.2 = fdB (txP T n wl5 (bd5 w) (fun b _ => fl5 b) 21 0 0 0).2 wb)) (fun u t => he_post g A ((fun (u : Nat × Int32 × Int32 × (Nat → Int32) × (Nat → Int32) × (Nat → Int32)) => [(oX7 z0 y0 (nI n) (nI u.1) u.2.1 u.2.2.1 z1), (aB g y0 500 tp), (aI g z1 3 u.2.2.2.1), (oX5 t0 t1 t2 (nI w)), (aI g t1 6 u.2.2.2.2.1), (aI g t2 36 u.2.2.2.2.2)]) u) t) A) (by decide) rfl (Nat.le_of_ble_eq_true rfl) ?_
  intro p e s m args below meth c A ls H locs Q hQ hB
  obtain ⟨hx, hb, hr, hml, hown, hts, hlk, hin, hP, hK, hD, hS, hA, hE, hl⟩ := hB
  have hl : lv_has ls 5 [(0, .ref z0), (1, .ref y0), (2, .int (nI n)), (3, .ref t0)] := hl
  have f9 := hts (.fieldLink RX7 9 "HiredEnemy$Reader" "bytes" "[B") (iwoX7_read (k := 0) rfl)
  have inX7 : ∀ w ∈ wsX70, w ∈ wsX7_read := innX7_read_X7
  have ml23 := hts (.methodLink RX7 23 Lib.Math.min.name) (iwoX7_read (k := 1) rfl)
  have msmin := hts (.static Lib.Math.min.name) (iwoX7_read (k := 2) rfl)
  have mi := hts (.initialized "java/lang/Math") (iwoX7_read (k := 3) rfl)
  have mcmin := hts (.code Lib.Math.min.name Lib.Math.min.code 2 (some .int)) (by decide +kernel)
  have f29 := hts (.fieldLink RX7 29 "HiredEnemy$Reader" "length" "I") (iwoX7_read (k := 4) rfl)
  have f32 := hts (.fieldLink RX7 32 "HiredEnemy$Reader" "at" "I") (iwoX7_read (k := 5) rfl)
  have f35 := hts (.fieldLink RX7 35 "HiredEnemy$Reader" "fault" "I") (iwoX7_read (k := 6) rfl)
  have f15 := hts (.fieldLink RX7 15 "HiredEnemy$Reader" "place" "I") (iwoX7_read (k := 7) rfl)
  have dc38 := hE.decl ⟨RX9, "mostParts", "()I"⟩ (by decide +kernel)
  refine lv_aload_n hx hb dX7_read_0 rfl (lv_at hl 0 rfl) ?_
  refine lv_aload_n hx hb dX7_read_1 rfl (lv_at hl 1 rfl) ?_
  refine va_put (v := .ref y0) (ty := tyX7 0) (T := TX7) (N := 6) hx hb hts inX7 tyX7 tyX7_ok nmX7 hown hK hP hD hS 0 rfl rfl 0 (by decide) f9 (fun _ h9 => h9) rfl (by decide +kernel) rfl rfl (Nat.le_of_ble_eq_true rfl) dX7_read_2 (fun H locs hP hD hS => ?_)
  have hP : va_P g.1 vwCl [(oX7 z0 y0 n1 at1 fa pl z1), (aB g y0 500 tp), (aI g z1 3 nu), (oX5 t0 t1 t2 (nI w)), (aI g t1 6 pd), (aI g t2 36 wb)] H := hP
  have hD : va_D A [(oX7 z0 y0 n1 at1 fa pl z1), (aB g y0 500 tp), (aI g z1 3 nu), (oX5 t0 t1 t2 (nI w)), (aI g t1 6 pd), (aI g t2 36 wb)] := hD
  refine lv_aload_n hx hb dX7_read_5 rfl (lv_at hl 0 rfl) ?_
  refine lv_iload_n hx hb dX7_read_6 rfl (lv_at hl 2 rfl) ?_
  refine lv_aload_n hx hb dX7_read_7 rfl (lv_at hl 1 rfl) ?_
  refine va_alen (v := 500) hx hb hK hP 1 0 rfl rfl rfl dX7_read_8 ?_
  refine va_mmin hx hb (by rw [hml]; exact hl.1.symm) hown ml23 msmin mi mcmin (by decide) (Nat.le_of_ble_eq_true rfl) (Nat.le_of_ble_eq_true rfl) (Nat.le_of_ble_eq_true rfl) dX7_read_9 ?_
  refine he_top (nI n) (he_min500 hn) ?_
  refine va_put (v := .int (nI n)) (ty := .int) (T := TX7) (N := 6) hx hb hts inX7 tyX7 tyX7_ok nmX7 hown hK hP hD hS 0 rfl rfl 1 (by decide) f29 (fun _ h9 => h9) rfl (by decide +kernel) rfl rfl (Nat.le_of_ble_eq_true rfl) dX7_read_12 (fun H locs hP hD hS => ?_)
  have hP : va_P g.1 vwCl [(oX7 z0 y0 (nI n) at1 fa pl z1), (aB g y0 500 tp), (aI g z1 3 nu), (oX5 t0 t1 t2 (nI w)), (aI g t1 6 pd), (aI g t2 36 wb)] H := hP
  have hD : va_D A [(oX7 z0 y0 (nI n) at1 fa pl z1), (aB g y0 500 tp), (aI g z1 3 nu), (oX5 t0 t1 t2 (nI w)), (aI g t1 6 pd), (aI g t2 36 wb)] := hD
  refine lv_aload_n hx hb dX7_read_15 rfl (lv_at hl 0 rfl) ?_
  refine lv_iconst (v := 0) hx hb dX7_read_16 (by decide) ?_
  refine va_put (v := .int 0) (ty := .int) (T := TX7) (N := 6) hx hb hts inX7 tyX7 tyX7_ok nmX7 hown hK hP hD hS 0 rfl rfl 2 (by decide) f32 (fun _ h9 => h9) rfl (by decide +kernel) rfl rfl (Nat.le_of_ble_eq_true rfl) dX7_read_17 (fun H locs hP hD hS => ?_)
  have hP : va_P g.1 vwCl [(oX7 z0 y0 (nI n) 0 fa pl z1), (aB g y0 500 tp), (aI g z1 3 nu), (oX5 t0 t1 t2 (nI w)), (aI g t1 6 pd), (aI g t2 36 wb)] H := hP
  have hD : va_D A [(oX7 z0 y0 (nI n) 0 fa pl z1), (aB g y0 500 tp), (aI g z1 3 nu), (oX5 t0 t1 t2 (nI w)), (aI g t1 6 pd), (aI g t2 36 wb)] := hD
  refine lv_aload_n hx hb dX7_read_20 rfl (lv_at hl 0 rfl) ?_
  refine lv_iconst (v := 0) hx hb dX7_read_21 (by decide) ?_
  refine va_put (v := .int 0) (ty := .int) (T := TX7) (N := 6) hx hb hts inX7 tyX7 tyX7_ok nmX7 hown hK hP hD hS 0 rfl rfl 3 (by decide) f35 (fun _ h9 => h9) rfl (by decide +kernel) rfl rfl (Nat.le_of_ble_eq_true rfl) dX7_read_22 (fun H locs hP hD hS => ?_)
  have hP : va_P g.1 vwCl [(oX7 z0 y0 (nI n) 0 0 pl z1), (aB g y0 500 tp), (aI g z1 3 nu), (oX5 t0 t1 t2 (nI w)), (aI g t1 6 pd), (aI g t2 36 wb)] H := hP
  have hD : va_D A [(oX7 z0 y0 (nI n) 0 0 pl z1), (aB g y0 500 tp), (aI g z1 3 nu), (oX5 t0 t1 t2 (nI w)), (aI g t1 6 pd), (aI g t2 36 wb)] := hD
  refine lv_aload_n hx hb dX7_read_25 rfl (lv_at hl 0 rfl) ?_
  refine lv_iconst (v := (-1)) hx hb dX7_read_26 (by decide) ?_
  refine va_put (v := .int (-1)) (ty := .int) (T := TX7) (N := 6) hx hb hts inX7 tyX7 tyX7_ok nmX7 hown hK hP hD hS 0 rfl rfl 4 (by decide) f15 (fun _ h9 => h9) rfl (by decide +kernel) rfl rfl (Nat.le_of_ble_eq_true rfl) dX7_read_27 (fun H locs hP hD hS => ?_)
  have hP : va_P g.1 vwCl [(oX7 z0 y0 (nI n) 0 0 (-1) z1), (aB g y0 500 tp), (aI g z1 3 nu), (oX5 t0 t1 t2 (nI w)), (aI g t1 6 pd), (aI g t2 36 wb)] H := hP
  have hD : va_D A [(oX7 z0 y0 (nI n) 0 0 (-1) z1), (aB g y0 500 tp), (aI g z1 3 nu), (oX5 t0 t1 t2 (nI w)), (aI g t1 6 pd), (aI g t2 36 wb)] := hD
  refine lv_iconst (v := 0) hx hb dX7_read_30 (by decide) ?_
  refine lv_istore (lv' := [(4, .int 0), (0, .ref z0), (1, .ref y0), (2, .int (nI n)), (3, .ref t0)]) hx hb dX7_read_31 hl (by decide) rfl (fun ls hl => ?_)
  have loop33 : ∀ (n9 : Nat) (j : Nat) (kj : Nat) (nj : Nat → Int32) (wj : Nat) (dj : Nat → Int32) (bj : Nat → Int32), 21 - j < n9 → (j ≤ 21) → (kj ≤ n) → ((txP T n wl5 (bd5 w) (fun b _ => fl5 b) (21 - j) j wj kj).1 = (txP T n wl5 (bd5 w) (fun b _ => fl5 b) 21 0 0 0).1) → (fdRl (txP T n wl5 (bd5 w) (fun b _ => fl5 b) (21 - j) j wj kj).2 dj = fdRl (txP T n wl5 (bd5 w) (fun b _ => fl5 b) 21 0 0 0).2 pd) → (fdB (txP T n wl5 (bd5 w) (fun b _ => fl5 b) (21 - j) j wj kj).2 bj = fdB (txP T n wl5 (bd5 w) (fun b _ => fl5 b) 21 0 0 0).2 wb) → ∀ (H : Heap) (locs : List Loc) (ls : Array Slot), va_P g.1 vwCl [(oX7 z0 y0 (nI n) (nI kj) 0 (-1) z1), (aB g y0 500 tp), (aI g z1 3 nj), (oX5 t0 t1 t2 (nI w)), (aI g t1 6 dj), (aI g t2 36 bj)] H → va_D A [(oX7 z0 y0 (nI n) (nI kj) 0 (-1) z1), (aB g y0 500 tp), (aI g z1 3 nj), (oX5 t0 t1 t2 (nI w)), (aI g t1 6 dj), (aI g t2 36 bj)] → va_S A s.heap H locs → lv_has ls 5 [(0, .ref z0), (3, .ref t0), (4, .int (nI j))] → W p l e (he_room 7 161 0 0) s m args below meth c H locs 0 0 Q (F0 m 33 ls []) := by
    intro n9
    induction n9 with
    | zero => intro j kj nj wj dj bj hm9; exact absurd hm9 (Nat.not_lt_zero _)
    | succ n9 ih33 =>
      intro j kj nj wj dj bj hm9 hj hkn hX1 hXud hXub H locs ls hP hD hS hl
      refine lv_iload hx hb dX7_read_33 (lv_at hl 2 rfl) ?_
      refine lv_aload_n hx hb dX7_read_35 rfl (lv_at hl 1 rfl) ?_
      refine he_ci (wc := [(oX5 t0 t1 t2 (nI w))]) (wr := [(oX7 z0 y0 (nI n) (nI kj) 0 (-1) z1), (aB g y0 500 tp), (aI g z1 3 nj), (aI g t1 6 dj), (aI g t2 36 bj)]) (va_runU (As := []) (rest := [.int (nI j)]) ⟨hx, hb, hml, hown, hts⟩ (c_X5_mostParts l g t0 t1 t2 (nI w) H.size) (va_cwA 0 hts gX7_read_X5_mostParts_u38X5 rfl rfl rfl dc38 (by decide +kernel) ⟨Nat.le_of_ble_eq_true rfl, Nat.le_of_ble_eq_true rfl⟩) (he_preV (wc := [(oX5 t0 t1 t2 (nI w))]) hK hP hD hS hA hE [3] rfl rfl 3 rfl rfl) rfl rfl hl.1 rfl (lv_room (Nat.le_of_ble_eq_true rfl)) dX7_read_36 ⟨(Nat.le_of_ble_eq_true rfl), (Nat.le_of_ble_eq_true rfl)⟩) hP hD hS hA [3] [0, 1, 2, 4, 5] rfl rfl rfl (by decide) (fun r_1 u_2 H locs h_3 hP hD hS => ?_)
      subst h_3
      have hP : va_P g.1 vwCl [(oX7 z0 y0 (nI n) (nI kj) 0 (-1) z1), (aB g y0 500 tp), (aI g z1 3 nj), (aI g t1 6 dj), (aI g t2 36 bj), (oX5 t0 t1 t2 (nI w))] H := hP
      have hD : va_D A [(oX7 z0 y0 (nI n) (nI kj) 0 (-1) z1), (aB g y0 500 tp), (aI g z1 3 nj), (aI g t1 6 dj), (aI g t2 36 bj), (oX5 t0 t1 t2 (nI w))] := hD
      refine lv_icmp_gt (tgt := 76) hx hb dX7_read_39 (by decide) (fun c_4 => ?_) (fun c_4 => ?_)
      · have k_5 : 20 < j := (he_clt (a := 20) (b := j) (by decide) rfl (by omega) (by omega)).mp c_4
        refine lv_aload_n hx hb dX7_read_76 rfl (lv_at hl 0 rfl) ?_
        refine va_get (v := .int 0) (T := TX7) (N := 6) hx hb hts inX7 hown hK hP 0 rfl rfl 3 (by decide) f35 (fun _ h9 => h9) rfl dX7_read_77 ?_
        have hP := hP.sub (ws' := [(oX7 z0 y0 (nI n) (nI kj) 0 (-1) z1), (aB g y0 500 tp), (aI g z1 3 nj), (oX5 t0 t1 t2 (nI w)), (aI g t1 6 dj), (aI g t2 36 bj)]) [0, 1, 2, 5, 3, 4] rfl
        have hD := hD.sub (ws' := [(oX7 z0 y0 (nI n) (nI kj) 0 (-1) z1), (aB g y0 500 tp), (aI g z1 3 nj), (oX5 t0 t1 t2 (nI w)), (aI g t1 6 dj), (aI g t2 36 bj)]) [0, 1, 2, 5, 3, 4] (by decide) rfl
        exact he_ri hQ hx hb hr hlk hP hD hS dX7_read_80 (Nat.le_of_ble_eq_true rfl) (Nat.le_of_ble_eq_true rfl) ((kj, 0, (-1), nj, dj, bj)) (rfl) ((by have e9 : (txP T n wl5 (bd5 w) (fun b _ => fl5 b) (21 - j) j wj kj) = (none, []) := (by (try dsimp only); rw [show 21 - j = 0 by (try dsimp only); omega]; rfl); rw [e9] at hX1 hXud hXub; exact ⟨rfl, by rw [← hX1]; rfl, by rw [← hX1]; rfl, hXud, hXub⟩))
      · have k_6 : ¬ (20 < j) := fun h9 => c_4 ((he_clt (a := 20) (b := j) (by decide) rfl (by omega) (by omega)).mpr h9)
        refine lv_aload_n hx hb dX7_read_42 rfl (lv_at hl 0 rfl) ?_
        refine he_cv (wc := [(oX7 z0 y0 (nI n) (nI kj) 0 (-1) z1), (aB g y0 500 tp)]) (wr := [(aI g z1 3 nj), (aI g t1 6 dj), (aI g t2 36 bj), (oX5 t0 t1 t2 (nI w))]) (va_runV (As := []) (rest := []) ⟨hx, hb, hml, hown, hts⟩ (p_X7_skipBlanks l g z0 z1 y0 n kj 0 (-1) tp T (by first | assumption | decide | omega) (by first | assumption | decide | omega) (by first | assumption | decide | omega) H.size) (cwV 0 hts gX7_read_X7_skipBlanks rfl rfl rfl (by decide +kernel) ⟨Nat.le_of_ble_eq_true rfl, Nat.le_of_ble_eq_true rfl⟩) (he_preV (wc := [(oX7 z0 y0 (nI n) (nI kj) 0 (-1) z1), (aB g y0 500 tp)]) hK hP hD hS hA hE [0, 1] rfl rfl 0 rfl rfl) rfl rfl hl.1 rfl (lv_room (Nat.le_of_ble_eq_true rfl)) dX7_read_43 ⟨(Nat.le_of_ble_eq_true rfl), (Nat.le_of_ble_eq_true rfl)⟩) hP hD hS hA [0, 1] [2, 3, 4, 5] rfl rfl rfl (by decide) (fun u_8 H locs h_9 hP hD hS => ?_)
        have hP : va_P g.1 vwCl [(aI g z1 3 nj), (aI g t1 6 dj), (aI g t2 36 bj), (oX5 t0 t1 t2 (nI w)), (oX7 z0 y0 (nI n) (nI (rn isBl T n kj)) 0 (-1) z1), (aB g y0 500 tp)] H := hP
        have hD : va_D A [(aI g z1 3 nj), (aI g t1 6 dj), (aI g t2 36 bj), (oX5 t0 t1 t2 (nI w)), (oX7 z0 y0 (nI n) (nI (rn isBl T n kj)) 0 (-1) z1), (aB g y0 500 tp)] := hD
        have hrn9 : rn isBl T n kj ≤ n := rn_le hkn
        refine lv_aload_n hx hb dX7_read_46 rfl (lv_at hl 0 rfl) ?_
        refine va_get (v := .int (nI (rn isBl T n kj))) (T := TX7) (N := 6) hx hb hts inX7 hown hK hP 4 rfl rfl 2 (by decide) f32 (fun _ h9 => h9) rfl dX7_read_47 ?_
        refine lv_aload_n hx hb dX7_read_50 rfl (lv_at hl 0 rfl) ?_
        refine va_get (v := .int (nI n)) (T := TX7) (N := 6) hx hb hts inX7 hown hK hP 4 rfl rfl 1 (by decide) f29 (fun _ h9 => h9) rfl dX7_read_51 ?_
        refine lv_icmp_ge (tgt := 76) hx hb dX7_read_54 (by decide) (fun c_10 => ?_) (fun c_10 => ?_)
        · have k_11 : n ≤ rn isBl T n kj := (he_cle (a := n) (b := rn isBl T n kj) rfl rfl (by omega) (by omega)).mp c_10
          refine lv_aload_n hx hb dX7_read_76 rfl (lv_at hl 0 rfl) ?_
          refine va_get (v := .int 0) (T := TX7) (N := 6) hx hb hts inX7 hown hK hP 4 rfl rfl 3 (by decide) f35 (fun _ h9 => h9) rfl dX7_read_77 ?_
          have hP := hP.sub (ws' := [(oX7 z0 y0 (nI n) (nI (rn isBl T n kj)) 0 (-1) z1), (aB g y0 500 tp), (aI g z1 3 nj), (oX5 t0 t1 t2 (nI w)), (aI g t1 6 dj), (aI g t2 36 bj)]) [4, 5, 0, 3, 1, 2] rfl
          have hD := hD.sub (ws' := [(oX7 z0 y0 (nI n) (nI (rn isBl T n kj)) 0 (-1) z1), (aB g y0 500 tp), (aI g z1 3 nj), (oX5 t0 t1 t2 (nI w)), (aI g t1 6 dj), (aI g t2 36 bj)]) [4, 5, 0, 3, 1, 2] (by decide) rfl
          exact he_ri hQ hx hb hr hlk hP hD hS dX7_read_80 (Nat.le_of_ble_eq_true rfl) (Nat.le_of_ble_eq_true rfl) ((rn isBl T n kj, 0, (-1), nj, dj, bj)) (rfl) ((by have e9 : (txP T n wl5 (bd5 w) (fun b _ => fl5 b) (21 - j) j wj kj) = (none, []) := tx_e (by (try dsimp only); omega); rw [e9] at hX1 hXud hXub; exact ⟨rfl, by rw [← hX1]; rfl, by rw [← hX1]; rfl, hXud, hXub⟩))
        · have k_12 : ¬ (n ≤ rn isBl T n kj) := fun h9 => c_10 ((he_cle (a := n) (b := rn isBl T n kj) rfl rfl (by omega) (by omega)).mpr h9)
          have hlt9 : rn isBl T n kj < n := by omega
          refine lv_aload_n hx hb dX7_read_57 rfl (lv_at hl 0 rfl) ?_
          refine lv_aload_n hx hb dX7_read_58 rfl (lv_at hl 1 rfl) ?_
          refine lv_iload hx hb dX7_read_59 (lv_at hl 2 rfl) ?_
          refine he_ci (wc := [(oX7 z0 y0 (nI n) (nI (rn isBl T n kj)) 0 (-1) z1), (aB g y0 500 tp), (aI g z1 3 nj), (oX5 t0 t1 t2 (nI w)), (aI g t1 6 dj), (aI g t2 36 bj)]) (wr := []) (va_runV (As := [.ref t0, .int (nI j)]) (rest := []) ⟨hx, hb, hml, hown, hts⟩ (p_X7_readPart5 l g z0 z1 y0 n (rn isBl T n kj) 0 (-1) tp T nj t0 t1 t2 w dj bj j (rn_le hkn) (by first | assumption | decide | omega) (by first | assumption | decide | omega) (by first | assumption | decide | omega) (by omega) H.size) (cwV 2 hts gX7_read_X7_readPart rfl rfl rfl (by decide +kernel) ⟨Nat.le_of_ble_eq_true rfl, Nat.le_of_ble_eq_true rfl⟩) (he_preV (wc := [(oX7 z0 y0 (nI n) (nI (rn isBl T n kj)) 0 (-1) z1), (aB g y0 500 tp), (aI g z1 3 nj), (oX5 t0 t1 t2 (nI w)), (aI g t1 6 dj), (aI g t2 36 bj)]) hK hP hD hS hA hE [4, 5, 0, 3, 1, 2] rfl rfl 4 rfl rfl) rfl rfl hl.1 rfl (lv_room (Nat.le_of_ble_eq_true rfl)) dX7_read_61 ⟨(Nat.le_of_ble_eq_true rfl), (Nat.le_of_ble_eq_true rfl)⟩) hP hD hS hA [4, 5, 0, 3, 1, 2] [] rfl rfl rfl (by decide) (fun r_13 u_14 H locs h_15 hP hD hS => ?_)
          obtain ⟨k2_16, fb_17, pb_18, nv_19, ud_20, ub_21⟩ := u_14
          try dsimp only at h_15
          obtain ⟨hf_22, hf_23⟩ := h_15
          have hP : va_P g.1 vwCl [(oX7 z0 y0 (nI n) (nI k2_16) fb_17 pb_18 z1), (aB g y0 500 tp), (aI g z1 3 nv_19), (oX5 t0 t1 t2 (nI w)), (aI g t1 6 ud_20), (aI g t2 36 ub_21)] H := hP
          have hD : va_D A [(oX7 z0 y0 (nI n) (nI k2_16) fb_17 pb_18 z1), (aB g y0 500 tp), (aI g z1 3 nv_19), (oX5 t0 t1 t2 (nI w)), (aI g t1 6 ud_20), (aI g t2 36 ub_21)] := hD
          have hk2 := hf_22
          rcases hf_23 with ⟨c9, p9, hp1, hr9, hf9, hp9, hu0, hu1⟩ | ⟨q9, vs, hp1, hp2, hr9, hf9, hp9, hu0, hu1⟩
          · subst k2_16 r_13 fb_17 pb_18 ud_20 ub_21
            have hP : va_P g.1 vwCl [(oX7 z0 y0 (nI n) (nI ((ptS T n wl5 (bd5 w) (fl5 j) (rn isBl T n kj)).2.1)) (nI c9) (nI p9) z1), (aB g y0 500 tp), (aI g z1 3 nv_19), (oX5 t0 t1 t2 (nI w)), (aI g t1 6 dj), (aI g t2 36 bj)] H := hP
            have hD : va_D A [(oX7 z0 y0 (nI n) (nI ((ptS T n wl5 (bd5 w) (fl5 j) (rn isBl T n kj)).2.1)) (nI c9) (nI p9) z1), (aB g y0 500 tp), (aI g z1 3 nv_19), (oX5 t0 t1 t2 (nI w)), (aI g t1 6 dj), (aI g t2 36 bj)] := hD
            refine lv_if_ne (tgt := 70) hx hb dX7_read_64 (by decide) (fun c_24 => ?_) (fun c_24 => ?_)
            · exact absurd (by decide) c_24
            · refine lv_goto (tgt := 76) hx hb dX7_read_67 (by decide) ?_
              refine lv_aload_n hx hb dX7_read_76 rfl (lv_at hl 0 rfl) ?_
              refine va_get (v := .int (nI c9)) (T := TX7) (N := 6) hx hb hts inX7 hown hK hP 0 rfl rfl 3 (by decide) f35 (fun _ h9 => h9) rfl dX7_read_77 ?_
              exact he_ri hQ hx hb hr hlk hP hD hS dX7_read_80 (Nat.le_of_ble_eq_true rfl) (Nat.le_of_ble_eq_true rfl) ((((ptS T n wl5 (bd5 w) (fl5 j) (rn isBl T n kj)).2.1), nI c9, nI p9, nv_19, dj, bj)) (rfl) ((by have e9 : (txP T n wl5 (bd5 w) (fun b _ => fl5 b) (21 - j) j wj kj) = (some (c9, p9), []) := (by (try dsimp only); rw [tx_s j 21 (by (try dsimp only); omega)]; exact tx_f hlt9 hp1); rw [e9] at hX1 hXud hXub; exact ⟨rfl, by rw [← hX1]; rfl, by rw [← hX1]; rfl, hXud, hXub⟩))
          · subst k2_16 r_13 fb_17 pb_18 ud_20 ub_21
            obtain ⟨_, _, hq8, _, hq9⟩ := pt_q hp2
            have e9 := tx_o (full := (fun b _ => fl5 b)) (b := j) (w := wj) (f := 21 - (j + 1)) hlt9 hp1 hp2
            rw [← tx_s j 21 (by omega)] at e9
            rw [e9] at hX1 hXud hXub
            have hP : va_P g.1 vwCl [(oX7 z0 y0 (nI n) (nI ((ptS T n wl5 (bd5 w) (fl5 j) (rn isBl T n kj)).2.1)) 0 (-1) z1), (aB g y0 500 tp), (aI g z1 3 nv_19), (oX5 t0 t1 t2 (nI w)), (aI g t1 6 (rlD q9 vs dj)), (aI g t2 36 (rlB q9 vs bj))] H := hP
            have hD : va_D A [(oX7 z0 y0 (nI n) (nI ((ptS T n wl5 (bd5 w) (fl5 j) (rn isBl T n kj)).2.1)) 0 (-1) z1), (aB g y0 500 tp), (aI g z1 3 nv_19), (oX5 t0 t1 t2 (nI w)), (aI g t1 6 (rlD q9 vs dj)), (aI g t2 36 (rlB q9 vs bj))] := hD
            refine lv_if_ne (tgt := 70) hx hb dX7_read_64 (by decide) (fun c_25 => ?_) (fun c_25 => ?_)
            · refine lv_iinc (v := nI (j + 1)) (lv' := [(4, .int (nI (j + 1))), (0, .ref z0), (3, .ref t0)]) hx hb dX7_read_70 hl (k := 2) rfl (nI_1 j) (by decide) rfl (fun ls hl => ?_)
              refine lv_goto (tgt := 33) hx hb dX7_read_73 (by decide) ?_
              exact ih33 (j + 1) ((ptS T n wl5 (bd5 w) (fl5 j) (rn isBl T n kj)).2.1) nv_19 (stW q9 wj) (rlD q9 vs dj) (rlB q9 vs bj) (by omega) (by omega) hq9 hX1 hXud hXub _ _ _ hP hD hS (lv_sub hl [1, 2, 0] rfl)
            · exact absurd c_25 (by decide)
  exact loop33 ((21 - 0) + 1) 0 0 nu 0 pd wb (Nat.lt_succ_self _) (Nat.zero_le _) (Nat.zero_le _) rfl rfl rfl _ _ _ hP hD hS (lv_sub hl [1, 4, 0] rfl)
