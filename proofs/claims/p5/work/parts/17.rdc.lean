theorem cB {tp : Nat → Int32} {T : Nat → Nat} {i : Nat} (h : T i < 256 ∧ tp i = sbI (T i)) : ((tp i = 32 ↔ isBl (T i) = true) ∧ (tp i = 59 ↔ T i = 59)) ∧ ((97 ≤ tp i ∧ tp i ≤ 122) ↔ isLt (T i) = true) ∧ ((48 ≤ tp i ∧ tp i ≤ 57) ↔ isDg (T i) = true) := by
  have t := sb_tab (T i) h.1
  rw [h.2]
  refine ⟨⟨?_, t.1.2⟩, ?_, ?_⟩
  · rw [t.1.1]; unfold isBl; simp
  · rw [t.2.1]; unfold isLt; simp
  · rw [t.2.2]; unfold isDg; simp
theorem bl_no {tp : Nat → Int32} {T : Nat → Nat} {i : Nat} (h : T i < 256 ∧ tp i = sbI (T i)) (c : ¬ tp i = 32) : isBl (T i) = false := by
  cases e : isBl (T i) with
  | false => rfl
  | true => exact absurd ((cB h).1.1.mpr e) c
theorem lt_no {tp : Nat → Int32} {T : Nat → Nat} {i : Nat} (h : T i < 256 ∧ tp i = sbI (T i)) (c : tp i < 97 ∨ 122 < tp i) : isLt (T i) = false := by
  cases e : isLt (T i) with
  | false => rfl
  | true =>
    have := (cB h).2.1.mpr e
    rcases c with c | c
    · exact absurd this.1 (Int32.not_le.mpr c)
    · exact absurd this.2 (Int32.not_le.mpr c)
theorem dg_no {tp : Nat → Int32} {T : Nat → Nat} {i : Nat} (h : T i < 256 ∧ tp i = sbI (T i)) (c : tp i < 48 ∨ 57 < tp i) : isDg (T i) = false := by
  cases e : isDg (T i) with
  | false => rfl
  | true =>
    have := (cB h).2.2.mpr e
    rcases c with c | c
    · exact absurd this.1 (Int32.not_le.mpr c)
    · exact absurd this.2 (Int32.not_le.mpr c)
theorem dg_b {x : Nat} (h : isDg x = true) : 48 ≤ x ∧ x ≤ 57 := by unfold isDg at h; simpa using h
theorem lt_b {x : Nat} (h : isLt x = true) : 97 ≤ x ∧ x ≤ 122 := by unfold isLt at h; simpa using h
theorem dg_nI {tp : Nat → Int32} {T : Nat → Nat} {i : Nat} (h : T i < 256 ∧ tp i = sbI (T i)) (c : isDg (T i) = true) : tp i = nI (T i) := by
  rw [h.2]; unfold sbI; rw [if_pos (by have := dg_b c; omega)]
theorem nv_s {T : Nat → Nat} {b e : Nat} (h : b ≤ e) (hd : 48 ≤ T e) : nvF T b (e + 1 - b) = min (nvF T b (e - b) * 10 + T e - 48) 100000 := by
  rw [show e + 1 - b = (e - b) + 1 by omega, nvF, show b + (e - b) = e by omega]
  congr 1
  omega
def ws6 : List (Nat × Nat) := [(0, 4), (5, 9), (10, 15), (16, 20), (21, 25), (26, 30), (31, 36), (37, 41)]
def ws5 : List (Nat × Nat) := [(0, 3), (4, 10), (11, 15), (16, 21), (22, 27), (28, 32), (33, 39)]
def wl6 : List (List Nat) := [[119, 97, 108, 108], [100, 117, 107, 101], [101, 110, 101, 109, 121], [116, 111, 119, 110], [102, 101, 97, 114], [110, 101, 97, 114], [109, 97, 115, 111, 110], [99, 111, 115, 116]]
def wl5 : List (List Nat) := [[112, 97, 121], [119, 105, 110, 116, 101, 114], [110, 101, 97, 114], [99, 111, 114, 107, 115], [98, 111, 110, 117, 115], [116, 105, 108, 108], [98, 114, 101, 97, 99, 104]]
/-- the word from b to k is the one that lies from f to t in the words' text -/
def sameW (tb : List Int32) (tp : Nat → Int32) (b k f t : Nat) : Prop := t - f = k - b ∧ ∀ i, i < t - f → tb.getD (f + i) 0 = tp (b + i)
theorem ws6_endB : ∀ q, q < 8 → ∀ i, i < 42 → (decide ((ws6.getD q (0, 0)).1 ≤ i) && decide (i ≤ (ws6.getD q (0, 0)).2)) = true → (decide (i = 41) || decide (he_w6.getD i 0 = 32)) = decide (i = (ws6.getD q (0, 0)).2) := by decide +kernel
theorem ws6_end (q : Nat) (hq : q < 8) (i : Nat) (hi : i < 42) (h1 : (ws6.getD q (0, 0)).1 ≤ i) (h2 : i ≤ (ws6.getD q (0, 0)).2) : (i = 41 ∨ he_w6.getD i 0 = 32) ↔ i = (ws6.getD q (0, 0)).2 := by
  have h := ws6_endB q hq i hi (by rw [decide_eq_true h1, decide_eq_true h2]; rfl)
  constructor
  · intro h3
    have : (decide (i = 41) || decide (he_w6.getD i 0 = 32)) = true := by
      rcases h3 with e | e
      · rw [decide_eq_true e]; rfl
      · rw [decide_eq_true e, Bool.or_true]
    rw [h] at this
    exact of_decide_eq_true this
  · intro h3
    rw [decide_eq_true h3] at h
    rcases Bool.or_eq_true_iff.mp h with e | e
    · exact Or.inl (of_decide_eq_true e)
    · exact Or.inr (of_decide_eq_true e)
theorem ws5_endB : ∀ q, q < 7 → ∀ i, i < 40 → (decide ((ws5.getD q (0, 0)).1 ≤ i) && decide (i ≤ (ws5.getD q (0, 0)).2)) = true → (decide (i = 39) || decide (he_w5.getD i 0 = 32)) = decide (i = (ws5.getD q (0, 0)).2) := by decide +kernel
theorem ws5_end (q : Nat) (hq : q < 7) (i : Nat) (hi : i < 40) (h1 : (ws5.getD q (0, 0)).1 ≤ i) (h2 : i ≤ (ws5.getD q (0, 0)).2) : (i = 39 ∨ he_w5.getD i 0 = 32) ↔ i = (ws5.getD q (0, 0)).2 := by
  have h := ws5_endB q hq i hi (by rw [decide_eq_true h1, decide_eq_true h2]; rfl)
  constructor
  · intro h3
    have : (decide (i = 39) || decide (he_w5.getD i 0 = 32)) = true := by
      rcases h3 with e | e
      · rw [decide_eq_true e]; rfl
      · rw [decide_eq_true e, Bool.or_true]
    rw [h] at this
    exact of_decide_eq_true this
  · intro h3
    rw [decide_eq_true h3] at h
    rcases Bool.or_eq_true_iff.mp h with e | e
    · exact Or.inl (of_decide_eq_true e)
    · exact Or.inr (of_decide_eq_true e)
theorem ws6_nx : ∀ q, q < 7 → (ws6.getD (q + 1) (0, 0)).1 = (ws6.getD q (0, 0)).2 + 1 ∧ (ws6.getD q (0, 0)).2 < 41 := by decide +kernel
theorem ws5_nx : ∀ q, q < 6 → (ws5.getD (q + 1) (0, 0)).1 = (ws5.getD q (0, 0)).2 + 1 ∧ (ws5.getD q (0, 0)).2 < 39 := by decide +kernel
theorem ws6_le : ∀ q, q < 8 → (ws6.getD q (0, 0)).1 < (ws6.getD q (0, 0)).2 ∧ (ws6.getD q (0, 0)).2 ≤ 41 ∧ (q = 7 → (ws6.getD q (0, 0)).2 = 41) ∧ (ws6.getD (q + 1) (0, 0)).1 ≤ (ws6.getD (q + 1) (0, 0)).2 := by decide +kernel
theorem ws5_le : ∀ q, q < 7 → (ws5.getD q (0, 0)).1 < (ws5.getD q (0, 0)).2 ∧ (ws5.getD q (0, 0)).2 ≤ 39 ∧ (q = 6 → (ws5.getD q (0, 0)).2 = 39) ∧ (ws5.getD (q + 1) (0, 0)).1 ≤ (ws5.getD (q + 1) (0, 0)).2 := by decide +kernel
set_option maxHeartbeats 4000000 in
set_option maxRecDepth 100000 in
theorem p_X7_skipBlanks (l : Launch) (g : he_G) (z0 : Nat) (z1 : Nat) (y0 : Nat) (n : Nat) (k : Nat) (fa : Int32) (pl : Int32) (tp : Nat → Int32) (T : Nat → Nat) (hk : k ≤ n) (hn : n ≤ 500) (hT : ∀ j, j < n → T j < 256 ∧ tp j = sbI (T j)) : he_V l yX7_skipBlanks wsX7_skipBlanks 0 0 0 0 g [.ref z0] [(oX7 z0 y0 (nI n) (nI k) fa pl z1), (aB g y0 500 tp)] (fun (u : Unit) => True) (fun (u : Unit) => [(oX7 z0 y0 (nI n) (nI (rn isBl T n k)) fa pl z1), (aB g y0 500 tp)]) := by
  refine he_begin (l := l) (g := g) (y := yX7_skipBlanks) (wl := wsX7_skipBlanks) (fr := 0) (lo := 0) (mc := 0) (ms := 0) (av := [.ref z0]) (ws := [(oX7 z0 y0 (nI n) (nI k) fa pl z1), (aB g y0 500 tp)]) (cc := cX7_skipBlanks) (maxL := 1) (ret := none) (fun A => va_Qv (fun (u : Unit) => True) (fun u t => he_post g A ((fun (u : Unit) => [(oX7 z0 y0 (nI n) (nI (rn isBl T n k)) fa pl z1), (aB g y0 500 tp)]) u) t) A) (by decide) rfl (Nat.le_of_ble_eq_true rfl) ?_
  intro p e s m args below meth c A ls H locs Q hQ hB
  obtain ⟨hx, hb, hr, hml, hown, hts, hlk, hin, hP, hK, hD, hS, hA, hE, hl⟩ := hB
  have hl : lv_has ls 1 [(0, .ref z0)] := hl
  have f32 := hts (.fieldLink RX7 32 "HiredEnemy$Reader" "at" "I") (iwoX7_skipBlanks (k := 0) rfl)
  have inX7 : ∀ w ∈ wsX70, w ∈ wsX7_skipBlanks := innX7_skipBlanks_X7
  have f29 := hts (.fieldLink RX7 29 "HiredEnemy$Reader" "length" "I") (iwoX7_skipBlanks (k := 1) rfl)
  have f9 := hts (.fieldLink RX7 9 "HiredEnemy$Reader" "bytes" "[B") (iwoX7_skipBlanks (k := 2) rfl)
  have loop0 : ∀ (n9 : Nat) (i : Nat), n - i < n9 → (k ≤ i) → (i ≤ n) → (rn isBl T n i = rn isBl T n k) → ∀ (H : Heap) (locs : List Loc) (ls : Array Slot), va_P g.1 vwCl [(oX7 z0 y0 (nI n) (nI i) fa pl z1), (aB g y0 500 tp)] H → va_D A [(oX7 z0 y0 (nI n) (nI i) fa pl z1), (aB g y0 500 tp)] → va_S A s.heap H locs → lv_has ls 1 [(0, .ref z0)] → W p l e (he_room 0 0 0 0) s m args below meth c H locs 0 0 Q (F0 m 0 ls []) := by
    intro n9
    induction n9 with
    | zero => intro i hm9; exact absurd hm9 (Nat.not_lt_zero _)
    | succ n9 ih0 =>
      intro i hm9 hi1 hi2 hi3 H locs ls hP hD hS hl
      refine lv_aload_n hx hb dX7_skipBlanks_0 rfl (lv_at hl 0 rfl) ?_
      refine va_get (v := .int (nI i)) (T := TX7) (N := 6) hx hb hts inX7 hown hK hP 0 rfl rfl 2 (by decide) f32 (fun _ h9 => h9) rfl dX7_skipBlanks_1 ?_
      refine lv_aload_n hx hb dX7_skipBlanks_4 rfl (lv_at hl 0 rfl) ?_
      refine va_get (v := .int (nI n)) (T := TX7) (N := 6) hx hb hts inX7 hown hK hP 0 rfl rfl 1 (by decide) f29 (fun _ h9 => h9) rfl dX7_skipBlanks_5 ?_
      refine lv_icmp_ge (tgt := 38) hx hb dX7_skipBlanks_8 (by decide) (fun c_1 => ?_) (fun c_1 => ?_)
      · have k_2 : n ≤ i := (he_cle (a := n) (b := i) rfl rfl (by omega) (by omega)).mp c_1
        exact he_rv hQ hx hb hr hlk hP hD hS dX7_skipBlanks_38 (Nat.le_of_ble_eq_true rfl) (Nat.le_of_ble_eq_true rfl) (()) ((by rw [show rn isBl T n k = i from hi3.symm.trans (rn_stop (fun h9 => absurd h9 (by omega)))])) (trivial)
      · have k_3 : ¬ (n ≤ i) := fun h9 => c_1 ((he_cle (a := n) (b := i) rfl rfl (by omega) (by omega)).mpr h9)
        refine lv_aload_n hx hb dX7_skipBlanks_11 rfl (lv_at hl 0 rfl) ?_
        refine va_get (v := .ref y0) (T := TX7) (N := 6) hx hb hts inX7 hown hK hP 0 rfl rfl 0 (by decide) f9 (fun _ h9 => h9) rfl dX7_skipBlanks_12 ?_
        refine lv_aload_n hx hb dX7_skipBlanks_15 rfl (lv_at hl 0 rfl) ?_
        refine va_get (v := .int (nI i)) (T := TX7) (N := 6) hx hb hts inX7 hown hK hP 0 rfl rfl 2 (by decide) f32 (fun _ h9 => h9) rfl dX7_skipBlanks_16 ?_
        refine he_bald hx hb hK hP 1 rfl (i) rfl (by first | assumption | decide | omega) (by first | decide | assumption) (tp i) rfl dX7_skipBlanks_19 ?_
        refine lv_bipush (v := 32) hx hb dX7_skipBlanks_20 (by decide) ?_
        refine lv_icmp_ne (tgt := 38) hx hb dX7_skipBlanks_22 (by decide) (fun c_4 => ?_) (fun c_4 => ?_)
        · exact he_rv hQ hx hb hr hlk hP hD hS dX7_skipBlanks_38 (Nat.le_of_ble_eq_true rfl) (Nat.le_of_ble_eq_true rfl) (()) ((by rw [show rn isBl T n k = i from hi3.symm.trans (rn_stop (fun h9 => bl_no (hT _ h9) c_4))])) (trivial)
        · refine lv_aload_n hx hb dX7_skipBlanks_25 rfl (lv_at hl 0 rfl) ?_
          refine lv_dup hx hb dX7_skipBlanks_26 rfl ?_
          refine va_get (v := .int (nI i)) (T := TX7) (N := 6) hx hb hts inX7 hown hK hP 0 rfl rfl 2 (by decide) f32 (fun _ h9 => h9) rfl dX7_skipBlanks_27 ?_
          refine lv_iconst (v := 1) hx hb dX7_skipBlanks_30 (by decide) ?_
          refine lv_iadd hx hb dX7_skipBlanks_31 ?_
          refine he_top (nI (i + 1)) (nI_add i 1) ?_
          refine va_put (v := .int (nI (i + 1))) (ty := .int) (T := TX7) (N := 6) hx hb hts inX7 tyX7 tyX7_ok nmX7 hown hK hP hD hS 0 rfl rfl 2 (by decide) f32 (fun _ h9 => h9) rfl (by decide +kernel) rfl rfl (Nat.le_of_ble_eq_true rfl) dX7_skipBlanks_32 (fun H locs hP hD hS => ?_)
          have hP : va_P g.1 vwCl [(oX7 z0 y0 (nI n) (nI (i + 1)) fa pl z1), (aB g y0 500 tp)] H := hP
          have hD : va_D A [(oX7 z0 y0 (nI n) (nI (i + 1)) fa pl z1), (aB g y0 500 tp)] := hD
          refine lv_goto (tgt := 0) hx hb dX7_skipBlanks_35 (by decide) ?_
          exact ih0 (i + 1) (by omega) (by omega) (by omega) ((rn_step (by omega) ((cB (hT _ (by omega))).1.1.mp c_4)).symm.trans hi3) _ _ _ hP hD hS (lv_sub hl [0] rfl)
  exact loop0 ((n - k) + 1) k (Nat.lt_succ_self _) (Nat.le_refl _) hk rfl _ _ _ hP hD hS (lv_sub hl [0] rfl)
set_option maxHeartbeats 4000000 in
set_option maxRecDepth 100000 in
theorem p_X7_skipLetters (l : Launch) (g : he_G) (z0 : Nat) (z1 : Nat) (y0 : Nat) (n : Nat) (k : Nat) (fa : Int32) (pl : Int32) (tp : Nat → Int32) (T : Nat → Nat) (hk : k ≤ n) (hn : n ≤ 500) (hT : ∀ j, j < n → T j < 256 ∧ tp j = sbI (T j)) : he_V l yX7_skipLetters wsX7_skipLetters 0 0 0 0 g [.ref z0] [(oX7 z0 y0 (nI n) (nI k) fa pl z1), (aB g y0 500 tp)] (fun (u : Unit) => True) (fun (u : Unit) => [(oX7 z0 y0 (nI n) (nI (rn isLt T n k)) fa pl z1), (aB g y0 500 tp)]) := by
  refine he_begin (l := l) (g := g) (y := yX7_skipLetters) (wl := wsX7_skipLetters) (fr := 0) (lo := 0) (mc := 0) (ms := 0) (av := [.ref z0]) (ws := [(oX7 z0 y0 (nI n) (nI k) fa pl z1), (aB g y0 500 tp)]) (cc := cX7_skipLetters) (maxL := 1) (ret := none) (fun A => va_Qv (fun (u : Unit) => True) (fun u t => he_post g A ((fun (u : Unit) => [(oX7 z0 y0 (nI n) (nI (rn isLt T n k)) fa pl z1), (aB g y0 500 tp)]) u) t) A) (by decide) rfl (Nat.le_of_ble_eq_true rfl) ?_
  intro p e s m args below meth c A ls H locs Q hQ hB
  obtain ⟨hx, hb, hr, hml, hown, hts, hlk, hin, hP, hK, hD, hS, hA, hE, hl⟩ := hB
  have hl : lv_has ls 1 [(0, .ref z0)] := hl
  have f32 := hts (.fieldLink RX7 32 "HiredEnemy$Reader" "at" "I") (iwoX7_skipLetters (k := 0) rfl)
  have inX7 : ∀ w ∈ wsX70, w ∈ wsX7_skipLetters := innX7_skipLetters_X7
  have f29 := hts (.fieldLink RX7 29 "HiredEnemy$Reader" "length" "I") (iwoX7_skipLetters (k := 1) rfl)
  have f9 := hts (.fieldLink RX7 9 "HiredEnemy$Reader" "bytes" "[B") (iwoX7_skipLetters (k := 2) rfl)
  have loop0 : ∀ (n9 : Nat) (i : Nat), n - i < n9 → (k ≤ i) → (i ≤ n) → (rn isLt T n i = rn isLt T n k) → ∀ (H : Heap) (locs : List Loc) (ls : Array Slot), va_P g.1 vwCl [(oX7 z0 y0 (nI n) (nI i) fa pl z1), (aB g y0 500 tp)] H → va_D A [(oX7 z0 y0 (nI n) (nI i) fa pl z1), (aB g y0 500 tp)] → va_S A s.heap H locs → lv_has ls 1 [(0, .ref z0)] → W p l e (he_room 0 0 0 0) s m args below meth c H locs 0 0 Q (F0 m 0 ls []) := by
    intro n9
    induction n9 with
    | zero => intro i hm9; exact absurd hm9 (Nat.not_lt_zero _)
    | succ n9 ih0 =>
      intro i hm9 hi1 hi2 hi3 H locs ls hP hD hS hl
      refine lv_aload_n hx hb dX7_skipLetters_0 rfl (lv_at hl 0 rfl) ?_
      refine va_get (v := .int (nI i)) (T := TX7) (N := 6) hx hb hts inX7 hown hK hP 0 rfl rfl 2 (by decide) f32 (fun _ h9 => h9) rfl dX7_skipLetters_1 ?_
      refine lv_aload_n hx hb dX7_skipLetters_4 rfl (lv_at hl 0 rfl) ?_
      refine va_get (v := .int (nI n)) (T := TX7) (N := 6) hx hb hts inX7 hown hK hP 0 rfl rfl 1 (by decide) f29 (fun _ h9 => h9) rfl dX7_skipLetters_5 ?_
      refine lv_icmp_ge (tgt := 52) hx hb dX7_skipLetters_8 (by decide) (fun c_1 => ?_) (fun c_1 => ?_)
      · have k_2 : n ≤ i := (he_cle (a := n) (b := i) rfl rfl (by omega) (by omega)).mp c_1
        exact he_rv hQ hx hb hr hlk hP hD hS dX7_skipLetters_52 (Nat.le_of_ble_eq_true rfl) (Nat.le_of_ble_eq_true rfl) (()) ((by rw [show rn isLt T n k = i from hi3.symm.trans (rn_stop (fun h9 => absurd h9 (by omega)))])) (trivial)
      · have k_3 : ¬ (n ≤ i) := fun h9 => c_1 ((he_cle (a := n) (b := i) rfl rfl (by omega) (by omega)).mpr h9)
        refine lv_aload_n hx hb dX7_skipLetters_11 rfl (lv_at hl 0 rfl) ?_
        refine va_get (v := .ref y0) (T := TX7) (N := 6) hx hb hts inX7 hown hK hP 0 rfl rfl 0 (by decide) f9 (fun _ h9 => h9) rfl dX7_skipLetters_12 ?_
        refine lv_aload_n hx hb dX7_skipLetters_15 rfl (lv_at hl 0 rfl) ?_
        refine va_get (v := .int (nI i)) (T := TX7) (N := 6) hx hb hts inX7 hown hK hP 0 rfl rfl 2 (by decide) f32 (fun _ h9 => h9) rfl dX7_skipLetters_16 ?_
        refine he_bald hx hb hK hP 1 rfl (i) rfl (by first | assumption | decide | omega) (by first | decide | assumption) (tp i) rfl dX7_skipLetters_19 ?_
        refine lv_bipush (v := 97) hx hb dX7_skipLetters_20 (by decide) ?_
        refine lv_icmp_lt (tgt := 52) hx hb dX7_skipLetters_22 (by decide) (fun c_4 => ?_) (fun c_4 => ?_)
        · exact he_rv hQ hx hb hr hlk hP hD hS dX7_skipLetters_52 (Nat.le_of_ble_eq_true rfl) (Nat.le_of_ble_eq_true rfl) (()) ((by rw [show rn isLt T n k = i from hi3.symm.trans (rn_stop (fun h9 => lt_no (hT _ h9) (Or.inl c_4)))])) (trivial)
        · refine lv_aload_n hx hb dX7_skipLetters_25 rfl (lv_at hl 0 rfl) ?_
          refine va_get (v := .ref y0) (T := TX7) (N := 6) hx hb hts inX7 hown hK hP 0 rfl rfl 0 (by decide) f9 (fun _ h9 => h9) rfl dX7_skipLetters_26 ?_
          refine lv_aload_n hx hb dX7_skipLetters_29 rfl (lv_at hl 0 rfl) ?_
          refine va_get (v := .int (nI i)) (T := TX7) (N := 6) hx hb hts inX7 hown hK hP 0 rfl rfl 2 (by decide) f32 (fun _ h9 => h9) rfl dX7_skipLetters_30 ?_
          refine he_bald hx hb hK hP 1 rfl (i) rfl (by first | assumption | decide | omega) (by first | decide | assumption) (tp i) rfl dX7_skipLetters_33 ?_
          refine lv_bipush (v := 122) hx hb dX7_skipLetters_34 (by decide) ?_
          refine lv_icmp_gt (tgt := 52) hx hb dX7_skipLetters_36 (by decide) (fun c_5 => ?_) (fun c_5 => ?_)
          · exact he_rv hQ hx hb hr hlk hP hD hS dX7_skipLetters_52 (Nat.le_of_ble_eq_true rfl) (Nat.le_of_ble_eq_true rfl) (()) ((by rw [show rn isLt T n k = i from hi3.symm.trans (rn_stop (fun h9 => lt_no (hT _ h9) (Or.inr c_5)))])) (trivial)
          · refine lv_aload_n hx hb dX7_skipLetters_39 rfl (lv_at hl 0 rfl) ?_
            refine lv_dup hx hb dX7_skipLetters_40 rfl ?_
            refine va_get (v := .int (nI i)) (T := TX7) (N := 6) hx hb hts inX7 hown hK hP 0 rfl rfl 2 (by decide) f32 (fun _ h9 => h9) rfl dX7_skipLetters_41 ?_
            refine lv_iconst (v := 1) hx hb dX7_skipLetters_44 (by decide) ?_
            refine lv_iadd hx hb dX7_skipLetters_45 ?_
            refine he_top (nI (i + 1)) (nI_add i 1) ?_
            refine va_put (v := .int (nI (i + 1))) (ty := .int) (T := TX7) (N := 6) hx hb hts inX7 tyX7 tyX7_ok nmX7 hown hK hP hD hS 0 rfl rfl 2 (by decide) f32 (fun _ h9 => h9) rfl (by decide +kernel) rfl rfl (Nat.le_of_ble_eq_true rfl) dX7_skipLetters_46 (fun H locs hP hD hS => ?_)
            have hP : va_P g.1 vwCl [(oX7 z0 y0 (nI n) (nI (i + 1)) fa pl z1), (aB g y0 500 tp)] H := hP
            have hD : va_D A [(oX7 z0 y0 (nI n) (nI (i + 1)) fa pl z1), (aB g y0 500 tp)] := hD
            refine lv_goto (tgt := 0) hx hb dX7_skipLetters_49 (by decide) ?_
            exact ih0 (i + 1) (by omega) (by omega) (by omega) ((rn_step (by omega) ((cB (hT _ (by omega))).2.1.mp ⟨Int32.not_lt.mp c_4, Int32.not_lt.mp c_5⟩)).symm.trans hi3) _ _ _ hP hD hS (lv_sub hl [0] rfl)
  exact loop0 ((n - k) + 1) k (Nat.lt_succ_self _) (Nat.le_refl _) hk rfl _ _ _ hP hD hS (lv_sub hl [0] rfl)
set_option maxHeartbeats 4000000 in
set_option maxRecDepth 100000 in
theorem p_X7_readNumber (l : Launch) (g : he_G) (z0 : Nat) (z1 : Nat) (y0 : Nat) (n : Nat) (k : Nat) (fa : Int32) (pl : Int32) (tp : Nat → Int32) (T : Nat → Nat) (nu : Nat → Int32) (i : Nat) (lo : Int32) (hi : Int32) (hk : k ≤ n) (hn : n ≤ 500) (hT : ∀ j, j < n → T j < 256 ∧ tp j = sbI (T j)) (hi3 : i < 3) : he_I l yX7_readNumber wsX7_readNumber 1 22 0 0 g [.ref z0, .int (nI i), .int lo, .int hi] [(oX7 z0 y0 (nI n) (nI k) fa pl z1), (aB g y0 500 tp), (aI g z1 3 nu)] (fun (r : Int32) (u : Nat × Int32 × Int32 × (Nat → Int32)) => u.1 = (rn isDg T n (rn isBl T n k)) ∧ (((rn isDg T n (rn isBl T n k)) = (rn isBl T n k) ∧ r = 0 ∧ u.2.1 = 1 ∧ u.2.2.1 = nI (rn isBl T n k) ∧ u.2.2.2 = nu) ∨ ((rn isBl T n k) < (rn isDg T n (rn isBl T n k)) ∧ he_within (nI (nvF T (rn isBl T n k) ((rn isDg T n (rn isBl T n k)) - (rn isBl T n k)))) lo hi = 0 ∧ r = 0 ∧ u.2.1 = 2 ∧ u.2.2.1 = nI (rn isBl T n k) ∧ u.2.2.2 = nu) ∨ ((rn isBl T n k) < (rn isDg T n (rn isBl T n k)) ∧ ¬ he_within (nI (nvF T (rn isBl T n k) ((rn isDg T n (rn isBl T n k)) - (rn isBl T n k)))) lo hi = 0 ∧ r = 1 ∧ u.2.1 = fa ∧ u.2.2.1 = pl ∧ u.2.2.2 = upd nu i (nI (nvF T (rn isBl T n k) ((rn isDg T n (rn isBl T n k)) - (rn isBl T n k))))))) (fun (u : Nat × Int32 × Int32 × (Nat → Int32)) => [(oX7 z0 y0 (nI n) (nI u.1) u.2.1 u.2.2.1 z1), (aB g y0 500 tp), (aI g z1 3 u.2.2.2)]) := by
  refine he_begin (l := l) (g := g) (y := yX7_readNumber) (wl := wsX7_readNumber) (fr := 1) (lo := 22) (mc := 0) (ms := 0) (av := [.ref z0, .int (nI i), .int lo, .int hi]) (ws := [(oX7 z0 y0 (nI n) (nI k) fa pl z1), (aB g y0 500 tp), (aI g z1 3 nu)]) (cc := cX7_readNumber) (maxL := 6) (ret := (some .boolean)) (fun A => va_Qi (fun (r : Int32) (u : Nat × Int32 × Int32 × (Nat → Int32)) => u.1 = (rn isDg T n (rn isBl T n k)) ∧ (((rn isDg T n (rn isBl T n k)) = (rn isBl T n k) ∧ r = 0 ∧ u.2.1 = 1 ∧ u.2.2.1 = nI (rn isBl T n k) ∧ u.2.2.2 = nu) ∨ ((rn isBl T n k) < (rn isDg T n (rn isBl T n k)) ∧ he_within (nI (nvF T (rn isBl T n k) ((rn isDg T n (rn isBl T n k)) - (rn isBl T n k)))) lo hi = 0 ∧ r = 0 ∧ u.2.1 = 2 ∧ u.2.2.1 = nI (rn isBl T n k) ∧ u.2.2.2 = nu) ∨ ((rn isBl T n k) < (rn isDg T n (rn isBl T n k)) ∧ ¬ he_within (nI (nvF T (rn isBl T n k) ((rn isDg T n (rn isBl T n k)) - (rn isBl T n k)))) lo hi = 0 ∧ r = 1 ∧ u.2.1 = fa ∧ u.2.2.1 = pl ∧ u.2.2.2 = upd nu i (nI (nvF T (rn isBl T n k) ((rn isDg T n (rn isBl T n k)) - (rn isBl T n k))))))) (fun u t => he_post g A ((fun (u : Nat × Int32 × Int32 × (Nat → Int32)) => [(oX7 z0 y0 (nI n) (nI u.1) u.2.1 u.2.2.1 z1), (aB g y0 500 tp), (aI g z1 3 u.2.2.2)]) u) t) A) (by decide) rfl (Nat.le_of_ble_eq_true rfl) ?_
  intro p e s m args below meth c A ls H locs Q hQ hB
  obtain ⟨hx, hb, hr, hml, hown, hts, hlk, hin, hP, hK, hD, hS, hA, hE, hl⟩ := hB
  have hl : lv_has ls 6 [(0, .ref z0), (1, .int (nI i)), (2, .int lo), (3, .int hi)] := hl
  have hB1 := rn_ge isBl T n k
  have hB2 : rn isBl T n k ≤ n := rn_le hk
  have f32 := hts (.fieldLink RX7 32 "HiredEnemy$Reader" "at" "I") (iwoX7_readNumber (k := 0) rfl)
  have inX7 : ∀ w ∈ wsX70, w ∈ wsX7_readNumber := innX7_readNumber_X7
  have nl88 := hE.nest (RX7, 88, yX10_within) (by decide +kernel)
  have iniX10 := hts (.initialized RX10) (iwoX7_readNumber (k := 17) rfl)
  have st_yX10_within := hts (.static yX10_within) (iwoX7_readNumber (k := 16) rfl)
  have f19 := hts (.fieldLink RX7 19 "HiredEnemy$Reader" "numbers" "[I") (iwoX7_readNumber (k := 8) rfl)
  have f29 := hts (.fieldLink RX7 29 "HiredEnemy$Reader" "length" "I") (iwoX7_readNumber (k := 1) rfl)
  have f9 := hts (.fieldLink RX7 9 "HiredEnemy$Reader" "bytes" "[B") (iwoX7_readNumber (k := 2) rfl)
  have kc87 := hts (.constant RX7 87 100000) (iwoX7_readNumber (k := 3) rfl)
  have ml23 := hts (.methodLink RX7 23 Lib.Math.min.name) (iwoX7_readNumber (k := 4) rfl)
  have msmin := hts (.static Lib.Math.min.name) (iwoX7_readNumber (k := 5) rfl)
  have mi := hts (.initialized "java/lang/Math") (iwoX7_readNumber (k := 6) rfl)
  have mcmin := hts (.code Lib.Math.min.name Lib.Math.min.code 2 (some .int)) (iwoX7_readNumber (k := 7) rfl)
  refine lv_aload_n hx hb dX7_readNumber_0 rfl (lv_at hl 0 rfl) ?_
  refine he_cv (wc := [(oX7 z0 y0 (nI n) (nI k) fa pl z1), (aB g y0 500 tp)]) (wr := [(aI g z1 3 nu)]) (va_runV (As := []) (rest := []) ⟨hx, hb, hml, hown, hts⟩ (p_X7_skipBlanks l g z0 z1 y0 n k fa pl tp T (by first | assumption | decide | omega) (by first | assumption | decide | omega) (by first | assumption | decide | omega) H.size) (cwV 0 hts gX7_readNumber_X7_skipBlanks rfl rfl rfl (by decide +kernel) ⟨Nat.le_of_ble_eq_true rfl, Nat.le_of_ble_eq_true rfl⟩) (he_preV (wc := [(oX7 z0 y0 (nI n) (nI k) fa pl z1), (aB g y0 500 tp)]) hK hP hD hS hA hE [0, 1] rfl rfl 0 rfl rfl) rfl rfl hl.1 rfl (lv_room (Nat.le_of_ble_eq_true rfl)) dX7_readNumber_1 ⟨(Nat.le_of_ble_eq_true rfl), (Nat.le_of_ble_eq_true rfl)⟩) hP hD hS hA [0, 1] [2] rfl rfl rfl (by decide) (fun u_2 H locs h_3 hP hD hS => ?_)
  have hP : va_P g.1 vwCl [(aI g z1 3 nu), (oX7 z0 y0 (nI n) (nI (rn isBl T n k)) fa pl z1), (aB g y0 500 tp)] H := hP
  have hD : va_D A [(aI g z1 3 nu), (oX7 z0 y0 (nI n) (nI (rn isBl T n k)) fa pl z1), (aB g y0 500 tp)] := hD
  refine lv_aload_n hx hb dX7_readNumber_4 rfl (lv_at hl 0 rfl) ?_
  refine va_get (v := .int (nI (rn isBl T n k))) (T := TX7) (N := 6) hx hb hts inX7 hown hK hP 1 rfl rfl 2 (by decide) f32 (fun _ h9 => h9) rfl dX7_readNumber_5 ?_
  refine lv_istore (lv' := [(4, .int (nI (rn isBl T n k))), (0, .ref z0), (1, .int (nI i)), (2, .int lo), (3, .int hi)]) hx hb dX7_readNumber_8 hl (by decide) rfl (fun ls hl => ?_)
  refine lv_iconst (v := 0) hx hb dX7_readNumber_10 (by decide) ?_
  have join90 : ∀ (ee : Nat) (vv : Nat), ((rn isBl T n k) ≤ ee) → (ee ≤ n) → ((rn isDg T n (rn isBl T n k)) = ee) → (vv = nvF T (rn isBl T n k) (ee - (rn isBl T n k))) → ∀ (H : Heap) (locs : List Loc) (ls : Array Slot), va_P g.1 vwCl [(oX7 z0 y0 (nI n) (nI ee) fa pl z1), (aB g y0 500 tp), (aI g z1 3 nu)] H → va_D A [(oX7 z0 y0 (nI n) (nI ee) fa pl z1), (aB g y0 500 tp), (aI g z1 3 nu)] → va_S A s.heap H locs → lv_has ls 6 [(0, .ref z0), (1, .int (nI i)), (2, .int lo), (3, .int hi), (4, .int (nI (rn isBl T n k))), (5, .int (nI vv))] → W p l e (he_room 1 22 0 0) s m args below meth c H locs 0 0 Q (F0 m 90 ls []) := by
    intro ee vv he1 he2 hrn hvv H locs ls hP hD hS hl
    refine lv_aload_n hx hb dX7_readNumber_90 rfl (lv_at hl 0 rfl) ?_
    refine va_get (v := .int (nI ee)) (T := TX7) (N := 6) hx hb hts inX7 hown hK hP 0 rfl rfl 2 (by decide) f32 (fun _ h9 => h9) rfl dX7_readNumber_91 ?_
    refine lv_iload hx hb dX7_readNumber_94 (lv_at hl 4 rfl) ?_
    refine lv_icmp_ne (tgt := 107) hx hb dX7_readNumber_96 (by decide) (fun c_4 => ?_) (fun c_4 => ?_)
    · have k_5 : ¬ (ee = rn isBl T n k) := fun h9 => c_4 ((he_ceq (a := ee) (b := rn isBl T n k) rfl rfl (by omega) (by omega)).mpr h9)
      refine lv_iload hx hb dX7_readNumber_107 (lv_at hl 5 rfl) ?_
      refine lv_iload_n hx hb dX7_readNumber_109 rfl (lv_at hl 2 rfl) ?_
      refine lv_iload_n hx hb dX7_readNumber_110 rfl (lv_at hl 3 rfl) ?_
      refine he_ci (wc := []) (wr := [(oX7 z0 y0 (nI n) (nI ee) fa pl z1), (aB g y0 500 tp), (aI g z1 3 nu)]) (va_runSN (As := [.int (nI vv), .int lo, .int hi]) (rest := []) ⟨hx, hb, hml, hown, hts⟩ (c_X10_within l g (nI vv) lo hi H.size) ⟨(va_cnB 3 hts gX7_readNumber_X10_within_n88 rfl rfl rfl nl88 iniX10 (by decide +kernel) ⟨Nat.le_of_ble_eq_true rfl, Nat.le_of_ble_eq_true rfl⟩), st_yX10_within, trivial⟩ (he_preS (wc := []) hK hP hD hS hA hE [] rfl rfl) rfl rfl hl.1 rfl (lv_room (Nat.le_of_ble_eq_true rfl)) dX7_readNumber_111 ⟨(Nat.le_of_ble_eq_true rfl), (Nat.le_of_ble_eq_true rfl)⟩) hP hD hS hA [] [0, 1, 2] rfl rfl rfl (by decide) (fun r_6 u_7 H locs h_8 hP hD hS => ?_)
      subst h_8
      have hP : va_P g.1 vwCl [(oX7 z0 y0 (nI n) (nI ee) fa pl z1), (aB g y0 500 tp), (aI g z1 3 nu)] H := hP
      have hD : va_D A [(oX7 z0 y0 (nI n) (nI ee) fa pl z1), (aB g y0 500 tp), (aI g z1 3 nu)] := hD
      refine lv_if_ne (tgt := 125) hx hb dX7_readNumber_114 (by decide) (fun c_9 => ?_) (fun c_9 => ?_)
      · refine lv_aload_n hx hb dX7_readNumber_125 rfl (lv_at hl 0 rfl) ?_
        refine va_get (v := .ref z1) (T := TX7) (N := 6) hx hb hts inX7 hown hK hP 0 rfl rfl 5 (by decide) f19 (fun _ h9 => h9) rfl dX7_readNumber_126 ?_
        refine lv_iload_n hx hb dX7_readNumber_129 rfl (lv_at hl 1 rfl) ?_
        refine lv_iload hx hb dX7_readNumber_130 (lv_at hl 5 rfl) ?_
        refine he_iast hx hb hK hP hD hS 2 rfl (i) rfl (by first | assumption | decide | omega) (by first | decide | assumption) dX7_readNumber_132 (fun H locs hP hD hS => ?_)
        have hP : va_P g.1 vwCl [(oX7 z0 y0 (nI n) (nI ee) fa pl z1), (aB g y0 500 tp), (aI g z1 3 (upd nu i (nI vv)))] H := hP
        have hD : va_D A [(oX7 z0 y0 (nI n) (nI ee) fa pl z1), (aB g y0 500 tp), (aI g z1 3 (upd nu i (nI vv)))] := hD
        refine lv_iconst (v := 1) hx hb dX7_readNumber_133 (by decide) ?_
        exact he_rz hQ hx hb hr hlk hP hD hS dX7_readNumber_134 (Nat.le_of_ble_eq_true rfl) (Nat.le_of_ble_eq_true rfl) rfl ((ee, fa, pl, upd nu i (nI vv))) (rfl) (⟨by rw [hrn], Or.inr (Or.inr ⟨by rw [hrn]; omega, by rw [hrn, ← hvv]; exact c_9, rfl, rfl, rfl, by rw [hrn, ← hvv]⟩)⟩)
      · refine lv_aload_n hx hb dX7_readNumber_117 rfl (lv_at hl 0 rfl) ?_
        refine lv_iconst (v := 2) hx hb dX7_readNumber_118 (by decide) ?_
        refine lv_iload hx hb dX7_readNumber_119 (lv_at hl 4 rfl) ?_
        refine he_ci (wc := [(oX7 z0 y0 (nI n) (nI ee) fa pl z1), (aB g y0 500 tp)]) (wr := [(aI g z1 3 nu)]) (va_runV (As := [.int 2, .int (nI (rn isBl T n k))]) (rest := []) ⟨hx, hb, hml, hown, hts⟩ (g_X7_fail l g z0 z1 y0 n ee fa pl tp 2 (nI (rn isBl T n k)) H.size) (cwV 2 hts gX7_readNumber_X7_fail rfl rfl rfl (by decide +kernel) ⟨Nat.le_of_ble_eq_true rfl, Nat.le_of_ble_eq_true rfl⟩) (he_preV (wc := [(oX7 z0 y0 (nI n) (nI ee) fa pl z1), (aB g y0 500 tp)]) hK hP hD hS hA hE [0, 1] rfl rfl 0 rfl rfl) rfl rfl hl.1 rfl (lv_room (Nat.le_of_ble_eq_true rfl)) dX7_readNumber_121 ⟨(Nat.le_of_ble_eq_true rfl), (Nat.le_of_ble_eq_true rfl)⟩) hP hD hS hA [0, 1] [2] rfl rfl rfl (by decide) (fun r_10 u_11 H locs h_12 hP hD hS => ?_)
        subst h_12
        have hP : va_P g.1 vwCl [(aI g z1 3 nu), (oX7 z0 y0 (nI n) (nI ee) 2 (nI (rn isBl T n k)) z1), (aB g y0 500 tp)] H := hP
        have hD : va_D A [(aI g z1 3 nu), (oX7 z0 y0 (nI n) (nI ee) 2 (nI (rn isBl T n k)) z1), (aB g y0 500 tp)] := hD
        have hP := hP.sub (ws' := [(oX7 z0 y0 (nI n) (nI ee) 2 (nI (rn isBl T n k)) z1), (aB g y0 500 tp), (aI g z1 3 nu)]) [1, 2, 0] rfl
        have hD := hD.sub (ws' := [(oX7 z0 y0 (nI n) (nI ee) 2 (nI (rn isBl T n k)) z1), (aB g y0 500 tp), (aI g z1 3 nu)]) [1, 2, 0] (by decide) rfl
        exact he_rz hQ hx hb hr hlk hP hD hS dX7_readNumber_124 (Nat.le_of_ble_eq_true rfl) (Nat.le_of_ble_eq_true rfl) rfl ((ee, 2, nI (rn isBl T n k), nu)) (rfl) (⟨by rw [hrn], Or.inr (Or.inl ⟨by rw [hrn]; omega, by rw [hrn, ← hvv]; exact c_9, rfl, rfl, rfl, rfl⟩)⟩)
    · have k_13 : ee = rn isBl T n k := (he_ceq (a := ee) (b := rn isBl T n k) rfl rfl (by omega) (by omega)).mp c_4
      refine lv_aload_n hx hb dX7_readNumber_99 rfl (lv_at hl 0 rfl) ?_
      refine lv_iconst (v := 1) hx hb dX7_readNumber_100 (by decide) ?_
      refine lv_iload hx hb dX7_readNumber_101 (lv_at hl 4 rfl) ?_
      refine he_ci (wc := [(oX7 z0 y0 (nI n) (nI ee) fa pl z1), (aB g y0 500 tp)]) (wr := [(aI g z1 3 nu)]) (va_runV (As := [.int 1, .int (nI (rn isBl T n k))]) (rest := []) ⟨hx, hb, hml, hown, hts⟩ (g_X7_fail l g z0 z1 y0 n ee fa pl tp 1 (nI (rn isBl T n k)) H.size) (cwV 2 hts gX7_readNumber_X7_fail rfl rfl rfl (by decide +kernel) ⟨Nat.le_of_ble_eq_true rfl, Nat.le_of_ble_eq_true rfl⟩) (he_preV (wc := [(oX7 z0 y0 (nI n) (nI ee) fa pl z1), (aB g y0 500 tp)]) hK hP hD hS hA hE [0, 1] rfl rfl 0 rfl rfl) rfl rfl hl.1 rfl (lv_room (Nat.le_of_ble_eq_true rfl)) dX7_readNumber_103 ⟨(Nat.le_of_ble_eq_true rfl), (Nat.le_of_ble_eq_true rfl)⟩) hP hD hS hA [0, 1] [2] rfl rfl rfl (by decide) (fun r_14 u_15 H locs h_16 hP hD hS => ?_)
      subst h_16
      have hP : va_P g.1 vwCl [(aI g z1 3 nu), (oX7 z0 y0 (nI n) (nI ee) 1 (nI (rn isBl T n k)) z1), (aB g y0 500 tp)] H := hP
      have hD : va_D A [(aI g z1 3 nu), (oX7 z0 y0 (nI n) (nI ee) 1 (nI (rn isBl T n k)) z1), (aB g y0 500 tp)] := hD
      have hP := hP.sub (ws' := [(oX7 z0 y0 (nI n) (nI ee) 1 (nI (rn isBl T n k)) z1), (aB g y0 500 tp), (aI g z1 3 nu)]) [1, 2, 0] rfl
      have hD := hD.sub (ws' := [(oX7 z0 y0 (nI n) (nI ee) 1 (nI (rn isBl T n k)) z1), (aB g y0 500 tp), (aI g z1 3 nu)]) [1, 2, 0] (by decide) rfl
      exact he_rz hQ hx hb hr hlk hP hD hS dX7_readNumber_106 (Nat.le_of_ble_eq_true rfl) (Nat.le_of_ble_eq_true rfl) rfl ((ee, 1, nI (rn isBl T n k), nu)) (rfl) (⟨by rw [hrn], Or.inl ⟨by rw [hrn]; omega, rfl, rfl, rfl, rfl⟩⟩)
  refine lv_istore (lv' := [(5, .int 0), (4, .int (nI (rn isBl T n k))), (0, .ref z0), (1, .int (nI i)), (2, .int lo), (3, .int hi)]) hx hb dX7_readNumber_11 hl (by decide) rfl (fun ls hl => ?_)
  have loop13 : ∀ (n9 : Nat) (ee : Nat) (vv : Nat), n - ee < n9 → ((rn isBl T n k) ≤ ee) → (ee ≤ n) → (rn isDg T n ee = (rn isDg T n (rn isBl T n k))) → (vv = nvF T (rn isBl T n k) (ee - (rn isBl T n k))) → ∀ (H : Heap) (locs : List Loc) (ls : Array Slot), va_P g.1 vwCl [(oX7 z0 y0 (nI n) (nI ee) fa pl z1), (aB g y0 500 tp), (aI g z1 3 nu)] H → va_D A [(oX7 z0 y0 (nI n) (nI ee) fa pl z1), (aB g y0 500 tp), (aI g z1 3 nu)] → va_S A s.heap H locs → lv_has ls 6 [(0, .ref z0), (1, .int (nI i)), (2, .int lo), (3, .int hi), (4, .int (nI (rn isBl T n k))), (5, .int (nI vv))] → W p l e (he_room 1 22 0 0) s m args below meth c H locs 0 0 Q (F0 m 13 ls []) := by
    intro n9
    induction n9 with
    | zero => intro ee vv hm9; exact absurd hm9 (Nat.not_lt_zero _)
    | succ n9 ih13 =>
      intro ee vv hm9 he1 he2 hrn hvv H locs ls hP hD hS hl
      refine lv_aload_n hx hb dX7_readNumber_13 rfl (lv_at hl 0 rfl) ?_
      refine va_get (v := .int (nI ee)) (T := TX7) (N := 6) hx hb hts inX7 hown hK hP 0 rfl rfl 2 (by decide) f32 (fun _ h9 => h9) rfl dX7_readNumber_14 ?_
      refine lv_aload_n hx hb dX7_readNumber_17 rfl (lv_at hl 0 rfl) ?_
      refine va_get (v := .int (nI n)) (T := TX7) (N := 6) hx hb hts inX7 hown hK hP 0 rfl rfl 1 (by decide) f29 (fun _ h9 => h9) rfl dX7_readNumber_18 ?_
      refine lv_icmp_ge (tgt := 90) hx hb dX7_readNumber_21 (by decide) (fun c_17 => ?_) (fun c_17 => ?_)
      · have k_18 : n ≤ ee := (he_cle (a := n) (b := ee) rfl rfl (by omega) (by omega)).mp c_17
        exact join90 ee vv (by omega) (by omega) (hrn.symm.trans (rn_stop (fun h9 => absurd h9 (by omega)))) hvv _ _ _ hP hD hS (lv_sub hl [0, 1, 2, 3, 4, 5] rfl)
      · have k_19 : ¬ (n ≤ ee) := fun h9 => c_17 ((he_cle (a := n) (b := ee) rfl rfl (by omega) (by omega)).mpr h9)
        refine lv_aload_n hx hb dX7_readNumber_24 rfl (lv_at hl 0 rfl) ?_
        refine va_get (v := .ref y0) (T := TX7) (N := 6) hx hb hts inX7 hown hK hP 0 rfl rfl 0 (by decide) f9 (fun _ h9 => h9) rfl dX7_readNumber_25 ?_
        refine lv_aload_n hx hb dX7_readNumber_28 rfl (lv_at hl 0 rfl) ?_
        refine va_get (v := .int (nI ee)) (T := TX7) (N := 6) hx hb hts inX7 hown hK hP 0 rfl rfl 2 (by decide) f32 (fun _ h9 => h9) rfl dX7_readNumber_29 ?_
        refine he_bald hx hb hK hP 1 rfl (ee) rfl (by first | assumption | decide | omega) (by first | decide | assumption) (tp ee) rfl dX7_readNumber_32 ?_
        refine lv_bipush (v := 48) hx hb dX7_readNumber_33 (by decide) ?_
        refine lv_icmp_lt (tgt := 90) hx hb dX7_readNumber_35 (by decide) (fun c_20 => ?_) (fun c_20 => ?_)
        · exact join90 ee vv (by omega) (by omega) (hrn.symm.trans (rn_stop (fun h9 => dg_no (hT _ h9) (Or.inl c_20)))) hvv _ _ _ hP hD hS (lv_sub hl [0, 1, 2, 3, 4, 5] rfl)
        · refine lv_aload_n hx hb dX7_readNumber_38 rfl (lv_at hl 0 rfl) ?_
          refine va_get (v := .ref y0) (T := TX7) (N := 6) hx hb hts inX7 hown hK hP 0 rfl rfl 0 (by decide) f9 (fun _ h9 => h9) rfl dX7_readNumber_39 ?_
          refine lv_aload_n hx hb dX7_readNumber_42 rfl (lv_at hl 0 rfl) ?_
          refine va_get (v := .int (nI ee)) (T := TX7) (N := 6) hx hb hts inX7 hown hK hP 0 rfl rfl 2 (by decide) f32 (fun _ h9 => h9) rfl dX7_readNumber_43 ?_
          refine he_bald hx hb hK hP 1 rfl (ee) rfl (by first | assumption | decide | omega) (by first | decide | assumption) (tp ee) rfl dX7_readNumber_46 ?_
          refine lv_bipush (v := 57) hx hb dX7_readNumber_47 (by decide) ?_
          refine lv_icmp_gt (tgt := 90) hx hb dX7_readNumber_49 (by decide) (fun c_21 => ?_) (fun c_21 => ?_)
          · exact join90 ee vv (by omega) (by omega) (hrn.symm.trans (rn_stop (fun h9 => dg_no (hT _ h9) (Or.inr c_21)))) hvv _ _ _ hP hD hS (lv_sub hl [0, 1, 2, 3, 4, 5] rfl)
          · have hdg := (cB (hT ee (by omega))).2.2.mp ⟨Int32.not_lt.mp c_20, Int32.not_lt.mp c_21⟩
            have hdb := dg_b hdg
            have hvl := nv_le T (rn isBl T n k) (ee - (rn isBl T n k))
            refine lv_iload hx hb dX7_readNumber_52 (lv_at hl 5 rfl) ?_
            refine lv_bipush (v := 10) hx hb dX7_readNumber_54 (by decide) ?_
            refine lv_imul hx hb dX7_readNumber_56 ?_
            refine he_top (nI (vv * 10)) (pk_mul vv 10) ?_
            refine lv_aload_n hx hb dX7_readNumber_57 rfl (lv_at hl 0 rfl) ?_
            refine va_get (v := .ref y0) (T := TX7) (N := 6) hx hb hts inX7 hown hK hP 0 rfl rfl 0 (by decide) f9 (fun _ h9 => h9) rfl dX7_readNumber_58 ?_
            refine lv_aload_n hx hb dX7_readNumber_61 rfl (lv_at hl 0 rfl) ?_
            refine va_get (v := .int (nI ee)) (T := TX7) (N := 6) hx hb hts inX7 hown hK hP 0 rfl rfl 2 (by decide) f32 (fun _ h9 => h9) rfl dX7_readNumber_62 ?_
            refine he_bald hx hb hK hP 1 rfl (ee) rfl (by first | assumption | decide | omega) (by first | decide | assumption) (nI (T ee)) (dg_nI (hT ee (by omega)) hdg) dX7_readNumber_65 ?_
            refine lv_iadd hx hb dX7_readNumber_66 ?_
            refine he_top (nI (vv * 10 + T ee)) (nI_add (vv * 10) (T ee)) ?_
            refine lv_bipush (v := 48) hx hb dX7_readNumber_67 (by decide) ?_
            refine lv_isub hx hb dX7_readNumber_69 ?_
            refine he_top (nI (vv * 10 + T ee - 48)) (pk_sub (b := 48) (by omega)) ?_
            refine lv_ldc (v := 100000) hx hb hown kc87 dX7_readNumber_70 ?_
            refine va_mmin hx hb (by rw [hml]; exact hl.1.symm) hown ml23 msmin mi mcmin (by decide) (Nat.le_of_ble_eq_true rfl) (Nat.le_of_ble_eq_true rfl) (Nat.le_of_ble_eq_true rfl) dX7_readNumber_72 ?_
            refine he_top (nI (min (vv * 10 + T ee - 48) 100000)) (nI_min (a := vv * 10 + T ee - 48) (b := 100000) (by omega) (by decide)) ?_
            refine lv_istore (lv' := [(5, .int (nI (min (vv * 10 + T ee - 48) 100000))), (0, .ref z0), (1, .int (nI i)), (2, .int lo), (3, .int hi), (4, .int (nI (rn isBl T n k)))]) hx hb dX7_readNumber_75 hl (by decide) rfl (fun ls hl => ?_)
            refine lv_aload_n hx hb dX7_readNumber_77 rfl (lv_at hl 1 rfl) ?_
            refine lv_dup hx hb dX7_readNumber_78 rfl ?_
            refine va_get (v := .int (nI ee)) (T := TX7) (N := 6) hx hb hts inX7 hown hK hP 0 rfl rfl 2 (by decide) f32 (fun _ h9 => h9) rfl dX7_readNumber_79 ?_
            refine lv_iconst (v := 1) hx hb dX7_readNumber_82 (by decide) ?_
            refine lv_iadd hx hb dX7_readNumber_83 ?_
            refine he_top (nI (ee + 1)) (nI_add ee 1) ?_
            refine va_put (v := .int (nI (ee + 1))) (ty := .int) (T := TX7) (N := 6) hx hb hts inX7 tyX7 tyX7_ok nmX7 hown hK hP hD hS 0 rfl rfl 2 (by decide) f32 (fun _ h9 => h9) rfl (by decide +kernel) rfl rfl (Nat.le_of_ble_eq_true rfl) dX7_readNumber_84 (fun H locs hP hD hS => ?_)
            have hP : va_P g.1 vwCl [(oX7 z0 y0 (nI n) (nI (ee + 1)) fa pl z1), (aB g y0 500 tp), (aI g z1 3 nu)] H := hP
            have hD : va_D A [(oX7 z0 y0 (nI n) (nI (ee + 1)) fa pl z1), (aB g y0 500 tp), (aI g z1 3 nu)] := hD
            refine lv_goto (tgt := 13) hx hb dX7_readNumber_87 (by decide) ?_
            exact ih13 (ee + 1) (min (vv * 10 + T ee - 48) 100000) (by omega) (by omega) (by omega) ((rn_step (by omega) hdg).symm.trans hrn) (by rw [nv_s he1 hdb.1, hvv]) _ _ _ hP hD hS (lv_sub hl [1, 2, 3, 4, 5, 0] rfl)
  exact loop13 ((n - (rn isBl T n k)) + 1) (rn isBl T n k) 0 (Nat.lt_succ_self _) (Nat.le_refl _) (by omega) rfl (by rw [Nat.sub_self]; rfl) _ _ _ (hP.sub [1, 2, 0] rfl) (hD.sub [1, 2, 0] (by decide) rfl) hS (lv_sub hl [2, 3, 4, 5, 1, 0] rfl)
set_option maxHeartbeats 4000000 in
set_option maxRecDepth 100000 in
theorem p_X7_isSame6 (l : Launch) (g : he_G) (z0 : Nat) (z1 : Nat) (y0 : Nat) (n : Nat) (k : Nat) (fa : Int32) (pl : Int32) (tp : Nat → Int32) (f : Nat) (t : Nat) (b : Nat) (hk : k ≤ n) (hn : n ≤ 500) (hft : f ≤ t) (ht : t ≤ 41) (hb9 : b ≤ k) : he_I l yX7_isSame wsX7_isSame 4 85 0 0 g [.ref z0, .ref (g.2 10), .int (nI f), .int (nI t), .int (nI b)] [(oX7 z0 y0 (nI n) (nI k) fa pl z1), (aB g y0 500 tp)] (fun (r : Int32) (u : Unit) => (r = 1 ∧ sameW he_w6 tp b k f t) ∨ (r = 0 ∧ ¬ sameW he_w6 tp b k f t)) (fun (u : Unit) => [(oX7 z0 y0 (nI n) (nI k) fa pl z1), (aB g y0 500 tp)]) := by
  refine he_begin (l := l) (g := g) (y := yX7_isSame) (wl := wsX7_isSame) (fr := 4) (lo := 85) (mc := 0) (ms := 0) (av := [.ref z0, .ref (g.2 10), .int (nI f), .int (nI t), .int (nI b)]) (ws := [(oX7 z0 y0 (nI n) (nI k) fa pl z1), (aB g y0 500 tp)]) (cc := cX7_isSame) (maxL := 6) (ret := (some .boolean)) (fun A => va_Qi (fun (r : Int32) (u : Unit) => (r = 1 ∧ sameW he_w6 tp b k f t) ∨ (r = 0 ∧ ¬ sameW he_w6 tp b k f t)) (fun u t => he_post g A ((fun (u : Unit) => [(oX7 z0 y0 (nI n) (nI k) fa pl z1), (aB g y0 500 tp)]) u) t) A) (by decide) rfl (Nat.le_of_ble_eq_true rfl) ?_
  intro p e s m args below meth c A ls H locs Q hQ hB
  obtain ⟨hx, hb, hr, hml, hown, hts, hlk, hin, hP, hK, hD, hS, hA, hE, hl⟩ := hB
  have hl : lv_has ls 6 [(0, .ref z0), (1, .ref (g.2 10)), (2, .int (nI f)), (3, .int (nI t)), (4, .int (nI b))] := hl
  have f32 := hts (.fieldLink RX7 32 "HiredEnemy$Reader" "at" "I") (iwoX7_isSame (k := 0) rfl)
  have inX7 : ∀ w ∈ wsX70, w ∈ wsX7_isSame := innX7_isSame_X7
  have f9 := hts (.fieldLink RX7 9 "HiredEnemy$Reader" "bytes" "[B") (iwoX7_isSame (k := 1) rfl)
  refine lv_iload_n hx hb dX7_isSame_0 rfl (lv_at hl 3 rfl) ?_
  refine lv_iload_n hx hb dX7_isSame_1 rfl (lv_at hl 2 rfl) ?_
  refine lv_isub hx hb dX7_isSame_2 ?_
  refine he_top (nI (t - f)) (pk_sub (by omega)) ?_
  refine lv_aload_n hx hb dX7_isSame_3 rfl (lv_at hl 0 rfl) ?_
  refine va_get (v := .int (nI k)) (T := TX7) (N := 6) hx hb hts inX7 hown hK hP 0 rfl rfl 2 (by decide) f32 (fun _ h9 => h9) rfl dX7_isSame_4 ?_
  refine lv_iload hx hb dX7_isSame_7 (lv_at hl 4 rfl) ?_
  refine lv_isub hx hb dX7_isSame_9 ?_
  refine he_top (nI (k - b)) (pk_sub (by omega)) ?_
  refine lv_icmp_eq (tgt := 15) hx hb dX7_isSame_10 (by decide) (fun c_1 => ?_) (fun c_1 => ?_)
  · have k_2 : t - f = k - b := (he_ceq (a := t - f) (b := k - b) rfl rfl (by omega) (by omega)).mp c_1
    have hlen : t - f = k - b := by omega
    refine lv_iconst (v := 0) hx hb dX7_isSame_15 (by decide) ?_
    refine lv_istore (lv' := [(5, .int 0), (0, .ref z0), (1, .ref (g.2 10)), (2, .int (nI f)), (3, .int (nI t)), (4, .int (nI b))]) hx hb dX7_isSame_16 hl (by decide) rfl (fun ls hl => ?_)
    have loop18 : ∀ (n9 : Nat) (i : Nat), t - f - i < n9 → (i ≤ t - f) → (∀ j, j < i → he_w6.getD (f + j) 0 = tp (b + j)) → ∀ (H : Heap) (locs : List Loc) (ls : Array Slot), va_P g.1 vwCl [(oX7 z0 y0 (nI n) (nI k) fa pl z1), (aB g y0 500 tp)] H → va_D A [(oX7 z0 y0 (nI n) (nI k) fa pl z1), (aB g y0 500 tp)] → va_S A s.heap H locs → lv_has ls 6 [(0, .ref z0), (1, .ref (g.2 10)), (2, .int (nI f)), (3, .int (nI t)), (4, .int (nI b)), (5, .int (nI i))] → W p l e (he_room 4 85 0 0) s m args below meth c H locs 0 0 Q (F0 m 18 ls []) := by
      intro n9
      induction n9 with
      | zero => intro i hm9; exact absurd hm9 (Nat.not_lt_zero _)
      | succ n9 ih18 =>
        intro i hm9 hi hsm H locs ls hP hD hS hl
        refine lv_iload hx hb dX7_isSame_18 (lv_at hl 5 rfl) ?_
        refine lv_iload_n hx hb dX7_isSame_20 rfl (lv_at hl 3 rfl) ?_
        refine lv_iload_n hx hb dX7_isSame_21 rfl (lv_at hl 2 rfl) ?_
        refine lv_isub hx hb dX7_isSame_22 ?_
        refine he_top (nI (t - f)) (pk_sub (by omega)) ?_
        refine lv_icmp_ge (tgt := 55) hx hb dX7_isSame_23 (by decide) (fun c_3 => ?_) (fun c_3 => ?_)
        · have k_4 : t - f ≤ i := (he_cle (a := t - f) (b := i) rfl rfl (by omega) (by omega)).mp c_3
          refine lv_iconst (v := 1) hx hb dX7_isSame_55 (by decide) ?_
          exact he_rz hQ hx hb hr hlk hP hD hS dX7_isSame_56 (Nat.le_of_ble_eq_true rfl) (Nat.le_of_ble_eq_true rfl) rfl (()) (rfl) (Or.inl ⟨rfl, hlen, fun j hj => hsm j (by omega)⟩)
        · have k_5 : ¬ (t - f ≤ i) := fun h9 => c_3 ((he_cle (a := t - f) (b := i) rfl rfl (by omega) (by omega)).mpr h9)
          refine lv_aload_n hx hb dX7_isSame_26 rfl (lv_at hl 1 rfl) ?_
          refine lv_iload_n hx hb dX7_isSame_27 rfl (lv_at hl 2 rfl) ?_
          refine lv_iload hx hb dX7_isSame_28 (lv_at hl 5 rfl) ?_
          refine lv_iadd hx hb dX7_isSame_30 ?_
          refine he_top (nI (f + i)) (nI_add f i) ?_
          refine he_ci (wc := []) (wr := [(oX7 z0 y0 (nI n) (nI k) fa pl z1), (aB g y0 500 tp)]) (va_runV (As := [.int (nI (f + i))]) (rest := []) ⟨hx, hb, hml, hown, hts⟩ (g_J0_charAt6 l g (f + i) (by first | assumption | decide | omega) H.size) (cwV 1 hts gX7_isSame_J0_charAt_5068e rfl rfl rfl (by decide +kernel) ⟨Nat.le_of_ble_eq_true rfl, Nat.le_of_ble_eq_true rfl⟩) (he_preO (wc := []) hK hP hD hS hA hE [] rfl rfl hE.words.2.1.2.1) rfl rfl hl.1 rfl (lv_room (Nat.le_of_ble_eq_true rfl)) dX7_isSame_31 ⟨(Nat.le_of_ble_eq_true rfl), (Nat.le_of_ble_eq_true rfl)⟩) hP hD hS hA [] [0, 1] rfl rfl rfl (by decide) (fun r_6 u_7 H locs h_8 hP hD hS => ?_)
          subst h_8
          have hP : va_P g.1 vwCl [(oX7 z0 y0 (nI n) (nI k) fa pl z1), (aB g y0 500 tp)] H := hP
          have hD : va_D A [(oX7 z0 y0 (nI n) (nI k) fa pl z1), (aB g y0 500 tp)] := hD
          refine lv_aload_n hx hb dX7_isSame_34 rfl (lv_at hl 0 rfl) ?_
          refine va_get (v := .ref y0) (T := TX7) (N := 6) hx hb hts inX7 hown hK hP 0 rfl rfl 0 (by decide) f9 (fun _ h9 => h9) rfl dX7_isSame_35 ?_
          refine lv_iload hx hb dX7_isSame_38 (lv_at hl 4 rfl) ?_
          refine lv_iload hx hb dX7_isSame_40 (lv_at hl 5 rfl) ?_
          refine lv_iadd hx hb dX7_isSame_42 ?_
          refine he_top (nI (b + i)) (nI_add b i) ?_
          refine he_bald hx hb hK hP 1 rfl (b + i) rfl (by first | assumption | decide | omega) (by first | decide | assumption) (tp (b + i)) rfl dX7_isSame_43 ?_
          refine lv_icmp_eq (tgt := 49) hx hb dX7_isSame_44 (by decide) (fun c_9 => ?_) (fun c_9 => ?_)
          · refine lv_iinc (v := nI (i + 1)) (lv' := [(5, .int (nI (i + 1))), (0, .ref z0), (1, .ref (g.2 10)), (2, .int (nI f)), (3, .int (nI t)), (4, .int (nI b))]) hx hb dX7_isSame_49 hl (k := 5) rfl (nI_1 i) (by decide) rfl (fun ls hl => ?_)
            refine lv_goto (tgt := 18) hx hb dX7_isSame_52 (by decide) ?_
            exact ih18 (i + 1) (by omega) (by omega) (fun j hj => (Nat.lt_succ_iff_lt_or_eq.mp hj).elim (hsm j) (fun e9 => by rw [e9]; exact c_9)) _ _ _ hP hD hS (lv_sub hl [1, 2, 3, 4, 5, 0] rfl)
          · refine lv_iconst (v := 0) hx hb dX7_isSame_47 (by decide) ?_
            exact he_rz hQ hx hb hr hlk hP hD hS dX7_isSame_48 (Nat.le_of_ble_eq_true rfl) (Nat.le_of_ble_eq_true rfl) rfl (()) (rfl) (Or.inr ⟨rfl, fun h9 => c_9 (h9.2 i (by omega))⟩)
    exact loop18 ((t - f - 0) + 1) 0 (Nat.lt_succ_self _) (Nat.zero_le _) (fun j hj => absurd hj (Nat.not_lt_zero j)) _ _ _ hP hD hS (lv_sub hl [1, 2, 3, 4, 5, 0] rfl)
  · have k_10 : ¬ (t - f = k - b) := fun h9 => c_1 ((he_ceq (a := t - f) (b := k - b) rfl rfl (by omega) (by omega)).mpr h9)
    refine lv_iconst (v := 0) hx hb dX7_isSame_13 (by decide) ?_
    exact he_rz hQ hx hb hr hlk hP hD hS dX7_isSame_14 (Nat.le_of_ble_eq_true rfl) (Nat.le_of_ble_eq_true rfl) rfl (()) (rfl) (Or.inr ⟨rfl, fun h9 => c_1 (by rw [h9.1])⟩)
set_option maxHeartbeats 4000000 in
set_option maxRecDepth 100000 in
theorem p_X7_isSame5 (l : Launch) (g : he_G) (z0 : Nat) (z1 : Nat) (y0 : Nat) (n : Nat) (k : Nat) (fa : Int32) (pl : Int32) (tp : Nat → Int32) (f : Nat) (t : Nat) (b : Nat) (hk : k ≤ n) (hn : n ≤ 500) (hft : f ≤ t) (ht : t ≤ 39) (hb9 : b ≤ k) : he_I l yX7_isSame wsX7_isSame 4 85 0 0 g [.ref z0, .ref (g.2 11), .int (nI f), .int (nI t), .int (nI b)] [(oX7 z0 y0 (nI n) (nI k) fa pl z1), (aB g y0 500 tp)] (fun (r : Int32) (u : Unit) => (r = 1 ∧ sameW he_w5 tp b k f t) ∨ (r = 0 ∧ ¬ sameW he_w5 tp b k f t)) (fun (u : Unit) => [(oX7 z0 y0 (nI n) (nI k) fa pl z1), (aB g y0 500 tp)]) := by
  refine he_begin (l := l) (g := g) (y := yX7_isSame) (wl := wsX7_isSame) (fr := 4) (lo := 85) (mc := 0) (ms := 0) (av := [.ref z0, .ref (g.2 11), .int (nI f), .int (nI t), .int (nI b)]) (ws := [(oX7 z0 y0 (nI n) (nI k) fa pl z1), (aB g y0 500 tp)]) (cc := cX7_isSame) (maxL := 6) (ret := (some .boolean)) (fun A => va_Qi (fun (r : Int32) (u : Unit) => (r = 1 ∧ sameW he_w5 tp b k f t) ∨ (r = 0 ∧ ¬ sameW he_w5 tp b k f t)) (fun u t => he_post g A ((fun (u : Unit) => [(oX7 z0 y0 (nI n) (nI k) fa pl z1), (aB g y0 500 tp)]) u) t) A) (by decide) rfl (Nat.le_of_ble_eq_true rfl) ?_
  intro p e s m args below meth c A ls H locs Q hQ hB
  obtain ⟨hx, hb, hr, hml, hown, hts, hlk, hin, hP, hK, hD, hS, hA, hE, hl⟩ := hB
  have hl : lv_has ls 6 [(0, .ref z0), (1, .ref (g.2 11)), (2, .int (nI f)), (3, .int (nI t)), (4, .int (nI b))] := hl
  have f32 := hts (.fieldLink RX7 32 "HiredEnemy$Reader" "at" "I") (iwoX7_isSame (k := 0) rfl)
  have inX7 : ∀ w ∈ wsX70, w ∈ wsX7_isSame := innX7_isSame_X7
  have f9 := hts (.fieldLink RX7 9 "HiredEnemy$Reader" "bytes" "[B") (iwoX7_isSame (k := 1) rfl)
  refine lv_iload_n hx hb dX7_isSame_0 rfl (lv_at hl 3 rfl) ?_
  refine lv_iload_n hx hb dX7_isSame_1 rfl (lv_at hl 2 rfl) ?_
  refine lv_isub hx hb dX7_isSame_2 ?_
  refine he_top (nI (t - f)) (pk_sub (by omega)) ?_
  refine lv_aload_n hx hb dX7_isSame_3 rfl (lv_at hl 0 rfl) ?_
  refine va_get (v := .int (nI k)) (T := TX7) (N := 6) hx hb hts inX7 hown hK hP 0 rfl rfl 2 (by decide) f32 (fun _ h9 => h9) rfl dX7_isSame_4 ?_
  refine lv_iload hx hb dX7_isSame_7 (lv_at hl 4 rfl) ?_
  refine lv_isub hx hb dX7_isSame_9 ?_
  refine he_top (nI (k - b)) (pk_sub (by omega)) ?_
  refine lv_icmp_eq (tgt := 15) hx hb dX7_isSame_10 (by decide) (fun c_1 => ?_) (fun c_1 => ?_)
  · have k_2 : t - f = k - b := (he_ceq (a := t - f) (b := k - b) rfl rfl (by omega) (by omega)).mp c_1
    have hlen : t - f = k - b := by omega
    refine lv_iconst (v := 0) hx hb dX7_isSame_15 (by decide) ?_
    refine lv_istore (lv' := [(5, .int 0), (0, .ref z0), (1, .ref (g.2 11)), (2, .int (nI f)), (3, .int (nI t)), (4, .int (nI b))]) hx hb dX7_isSame_16 hl (by decide) rfl (fun ls hl => ?_)
    have loop18 : ∀ (n9 : Nat) (i : Nat), t - f - i < n9 → (i ≤ t - f) → (∀ j, j < i → he_w5.getD (f + j) 0 = tp (b + j)) → ∀ (H : Heap) (locs : List Loc) (ls : Array Slot), va_P g.1 vwCl [(oX7 z0 y0 (nI n) (nI k) fa pl z1), (aB g y0 500 tp)] H → va_D A [(oX7 z0 y0 (nI n) (nI k) fa pl z1), (aB g y0 500 tp)] → va_S A s.heap H locs → lv_has ls 6 [(0, .ref z0), (1, .ref (g.2 11)), (2, .int (nI f)), (3, .int (nI t)), (4, .int (nI b)), (5, .int (nI i))] → W p l e (he_room 4 85 0 0) s m args below meth c H locs 0 0 Q (F0 m 18 ls []) := by
      intro n9
      induction n9 with
      | zero => intro i hm9; exact absurd hm9 (Nat.not_lt_zero _)
      | succ n9 ih18 =>
        intro i hm9 hi hsm H locs ls hP hD hS hl
        refine lv_iload hx hb dX7_isSame_18 (lv_at hl 5 rfl) ?_
        refine lv_iload_n hx hb dX7_isSame_20 rfl (lv_at hl 3 rfl) ?_
        refine lv_iload_n hx hb dX7_isSame_21 rfl (lv_at hl 2 rfl) ?_
        refine lv_isub hx hb dX7_isSame_22 ?_
        refine he_top (nI (t - f)) (pk_sub (by omega)) ?_
        refine lv_icmp_ge (tgt := 55) hx hb dX7_isSame_23 (by decide) (fun c_3 => ?_) (fun c_3 => ?_)
        · have k_4 : t - f ≤ i := (he_cle (a := t - f) (b := i) rfl rfl (by omega) (by omega)).mp c_3
          refine lv_iconst (v := 1) hx hb dX7_isSame_55 (by decide) ?_
          exact he_rz hQ hx hb hr hlk hP hD hS dX7_isSame_56 (Nat.le_of_ble_eq_true rfl) (Nat.le_of_ble_eq_true rfl) rfl (()) (rfl) (Or.inl ⟨rfl, hlen, fun j hj => hsm j (by omega)⟩)
        · have k_5 : ¬ (t - f ≤ i) := fun h9 => c_3 ((he_cle (a := t - f) (b := i) rfl rfl (by omega) (by omega)).mpr h9)
          refine lv_aload_n hx hb dX7_isSame_26 rfl (lv_at hl 1 rfl) ?_
          refine lv_iload_n hx hb dX7_isSame_27 rfl (lv_at hl 2 rfl) ?_
          refine lv_iload hx hb dX7_isSame_28 (lv_at hl 5 rfl) ?_
          refine lv_iadd hx hb dX7_isSame_30 ?_
          refine he_top (nI (f + i)) (nI_add f i) ?_
          refine he_ci (wc := []) (wr := [(oX7 z0 y0 (nI n) (nI k) fa pl z1), (aB g y0 500 tp)]) (va_runV (As := [.int (nI (f + i))]) (rest := []) ⟨hx, hb, hml, hown, hts⟩ (g_J0_charAt5 l g (f + i) (by first | assumption | decide | omega) H.size) (cwV 1 hts gX7_isSame_J0_charAt_5068e rfl rfl rfl (by decide +kernel) ⟨Nat.le_of_ble_eq_true rfl, Nat.le_of_ble_eq_true rfl⟩) (he_preO (wc := []) hK hP hD hS hA hE [] rfl rfl hE.words.2.2.2.1) rfl rfl hl.1 rfl (lv_room (Nat.le_of_ble_eq_true rfl)) dX7_isSame_31 ⟨(Nat.le_of_ble_eq_true rfl), (Nat.le_of_ble_eq_true rfl)⟩) hP hD hS hA [] [0, 1] rfl rfl rfl (by decide) (fun r_6 u_7 H locs h_8 hP hD hS => ?_)
          subst h_8
          have hP : va_P g.1 vwCl [(oX7 z0 y0 (nI n) (nI k) fa pl z1), (aB g y0 500 tp)] H := hP
          have hD : va_D A [(oX7 z0 y0 (nI n) (nI k) fa pl z1), (aB g y0 500 tp)] := hD
          refine lv_aload_n hx hb dX7_isSame_34 rfl (lv_at hl 0 rfl) ?_
          refine va_get (v := .ref y0) (T := TX7) (N := 6) hx hb hts inX7 hown hK hP 0 rfl rfl 0 (by decide) f9 (fun _ h9 => h9) rfl dX7_isSame_35 ?_
          refine lv_iload hx hb dX7_isSame_38 (lv_at hl 4 rfl) ?_
          refine lv_iload hx hb dX7_isSame_40 (lv_at hl 5 rfl) ?_
          refine lv_iadd hx hb dX7_isSame_42 ?_
          refine he_top (nI (b + i)) (nI_add b i) ?_
          refine he_bald hx hb hK hP 1 rfl (b + i) rfl (by first | assumption | decide | omega) (by first | decide | assumption) (tp (b + i)) rfl dX7_isSame_43 ?_
          refine lv_icmp_eq (tgt := 49) hx hb dX7_isSame_44 (by decide) (fun c_9 => ?_) (fun c_9 => ?_)
          · refine lv_iinc (v := nI (i + 1)) (lv' := [(5, .int (nI (i + 1))), (0, .ref z0), (1, .ref (g.2 11)), (2, .int (nI f)), (3, .int (nI t)), (4, .int (nI b))]) hx hb dX7_isSame_49 hl (k := 5) rfl (nI_1 i) (by decide) rfl (fun ls hl => ?_)
            refine lv_goto (tgt := 18) hx hb dX7_isSame_52 (by decide) ?_
            exact ih18 (i + 1) (by omega) (by omega) (fun j hj => (Nat.lt_succ_iff_lt_or_eq.mp hj).elim (hsm j) (fun e9 => by rw [e9]; exact c_9)) _ _ _ hP hD hS (lv_sub hl [1, 2, 3, 4, 5, 0] rfl)
          · refine lv_iconst (v := 0) hx hb dX7_isSame_47 (by decide) ?_
            exact he_rz hQ hx hb hr hlk hP hD hS dX7_isSame_48 (Nat.le_of_ble_eq_true rfl) (Nat.le_of_ble_eq_true rfl) rfl (()) (rfl) (Or.inr ⟨rfl, fun h9 => c_9 (h9.2 i (by omega))⟩)
    exact loop18 ((t - f - 0) + 1) 0 (Nat.lt_succ_self _) (Nat.zero_le _) (fun j hj => absurd hj (Nat.not_lt_zero j)) _ _ _ hP hD hS (lv_sub hl [1, 2, 3, 4, 5, 0] rfl)
  · have k_10 : ¬ (t - f = k - b) := fun h9 => c_1 ((he_ceq (a := t - f) (b := k - b) rfl rfl (by omega) (by omega)).mpr h9)
    refine lv_iconst (v := 0) hx hb dX7_isSame_13 (by decide) ?_
    exact he_rz hQ hx hb hr hlk hP hD hS dX7_isSame_14 (Nat.le_of_ble_eq_true rfl) (Nat.le_of_ble_eq_true rfl) rfl (()) (rfl) (Or.inr ⟨rfl, fun h9 => c_1 (by rw [h9.1])⟩)
set_option maxHeartbeats 4000000 in
set_option maxRecDepth 100000 in
theorem p_X7_kindOf6 (l : Launch) (g : he_G) (z0 : Nat) (z1 : Nat) (y0 : Nat) (n : Nat) (k : Nat) (fa : Int32) (pl : Int32) (tp : Nat → Int32) (b : Nat) (hk : k ≤ n) (hn : n ≤ 500) (hb9 : b ≤ k) : he_I l yX7_kindOf wsX7_kindOf 5 110 0 0 g [.ref z0, .ref (g.2 10), .int (nI b)] [(oX7 z0 y0 (nI n) (nI k) fa pl z1), (aB g y0 500 tp)] (fun (r : Int32) (u : Unit) => (∃ q, q < 8 ∧ r = nI q ∧ sameW he_w6 tp b k (ws6.getD q (0, 0)).1 (ws6.getD q (0, 0)).2 ∧ ∀ j, j < q → ¬ sameW he_w6 tp b k (ws6.getD j (0, 0)).1 (ws6.getD j (0, 0)).2) ∨ (r = -1 ∧ ∀ q, q < 8 → ¬ sameW he_w6 tp b k (ws6.getD q (0, 0)).1 (ws6.getD q (0, 0)).2)) (fun (u : Unit) => [(oX7 z0 y0 (nI n) (nI k) fa pl z1), (aB g y0 500 tp)]) := by
  refine he_begin (l := l) (g := g) (y := yX7_kindOf) (wl := wsX7_kindOf) (fr := 5) (lo := 110) (mc := 0) (ms := 0) (av := [.ref z0, .ref (g.2 10), .int (nI b)]) (ws := [(oX7 z0 y0 (nI n) (nI k) fa pl z1), (aB g y0 500 tp)]) (cc := cX7_kindOf) (maxL := 6) (ret := (some .int)) (fun A => va_Qi (fun (r : Int32) (u : Unit) => (∃ q, q < 8 ∧ r = nI q ∧ sameW he_w6 tp b k (ws6.getD q (0, 0)).1 (ws6.getD q (0, 0)).2 ∧ ∀ j, j < q → ¬ sameW he_w6 tp b k (ws6.getD j (0, 0)).1 (ws6.getD j (0, 0)).2) ∨ (r = -1 ∧ ∀ q, q < 8 → ¬ sameW he_w6 tp b k (ws6.getD q (0, 0)).1 (ws6.getD q (0, 0)).2)) (fun u t => he_post g A ((fun (u : Unit) => [(oX7 z0 y0 (nI n) (nI k) fa pl z1), (aB g y0 500 tp)]) u) t) A) (by decide) rfl (Nat.le_of_ble_eq_true rfl) ?_
  intro p e s m args below meth c A ls H locs Q hQ hB
  obtain ⟨hx, hb, hr, hml, hown, hts, hlk, hin, hP, hK, hD, hS, hA, hE, hl⟩ := hB
  have hl : lv_has ls 6 [(0, .ref z0), (1, .ref (g.2 10)), (2, .int (nI b))] := hl
  refine lv_iconst (v := 0) hx hb dX7_kindOf_0 (by decide) ?_
  refine lv_istore_n (lv' := [(3, .int 0), (0, .ref z0), (1, .ref (g.2 10)), (2, .int (nI b))]) hx hb dX7_kindOf_1 rfl hl (by decide) rfl (fun ls hl => ?_)
  refine lv_iconst (v := 0) hx hb dX7_kindOf_2 (by decide) ?_
  refine lv_istore (lv' := [(4, .int 0), (3, .int 0), (0, .ref z0), (1, .ref (g.2 10)), (2, .int (nI b))]) hx hb dX7_kindOf_3 hl (by decide) rfl (fun ls hl => ?_)
  refine lv_iconst (v := 0) hx hb dX7_kindOf_5 (by decide) ?_
  refine lv_istore (lv' := [(5, .int 0), (4, .int 0), (3, .int 0), (0, .ref z0), (1, .ref (g.2 10)), (2, .int (nI b))]) hx hb dX7_kindOf_6 hl (by decide) rfl (fun ls hl => ?_)
  have loop8 : ∀ (n9 : Nat) (i : Nat) (f : Nat) (kn : Nat), 42 - i < n9 → (i ≤ 42) → (kn ≤ 8) → ((kn < 8 ∧ f = (ws6.getD kn (0, 0)).1 ∧ f ≤ i ∧ i ≤ (ws6.getD kn (0, 0)).2) ∨ (kn = 8 ∧ i = 42)) → (∀ q, q < kn → ¬ sameW he_w6 tp b k (ws6.getD q (0, 0)).1 (ws6.getD q (0, 0)).2) → ∀ (H : Heap) (locs : List Loc) (ls : Array Slot), va_P g.1 vwCl [(oX7 z0 y0 (nI n) (nI k) fa pl z1), (aB g y0 500 tp)] H → va_D A [(oX7 z0 y0 (nI n) (nI k) fa pl z1), (aB g y0 500 tp)] → va_S A s.heap H locs → lv_has ls 6 [(0, .ref z0), (1, .ref (g.2 10)), (2, .int (nI b)), (3, .int (nI kn)), (4, .int (nI f)), (5, .int (nI i))] → W p l e (he_room 5 110 0 0) s m args below meth c H locs 0 0 Q (F0 m 8 ls []) := by
    intro n9
    induction n9 with
    | zero => intro i f kn hm9; exact absurd hm9 (Nat.not_lt_zero _)
    | succ n9 ih8 =>
      intro i f kn hm9 hi hkd hst hno H locs ls hP hD hS hl
      refine lv_iload hx hb dX7_kindOf_8 (lv_at hl 5 rfl) ?_
      refine lv_aload_n hx hb dX7_kindOf_10 rfl (lv_at hl 1 rfl) ?_
      refine he_ci (wc := []) (wr := [(oX7 z0 y0 (nI n) (nI k) fa pl z1), (aB g y0 500 tp)]) (va_runV (As := []) (rest := [.int (nI i)]) ⟨hx, hb, hml, hown, hts⟩ (g_J0_length6 l g  H.size) (cwV 0 hts gX7_kindOf_J0_length_8abf5 rfl rfl rfl (by decide +kernel) ⟨Nat.le_of_ble_eq_true rfl, Nat.le_of_ble_eq_true rfl⟩) (he_preO (wc := []) hK hP hD hS hA hE [] rfl rfl hE.words.2.1.2.1) rfl rfl hl.1 rfl (lv_room (Nat.le_of_ble_eq_true rfl)) dX7_kindOf_11 ⟨(Nat.le_of_ble_eq_true rfl), (Nat.le_of_ble_eq_true rfl)⟩) hP hD hS hA [] [0, 1] rfl rfl rfl (by decide) (fun r_1 u_2 H locs h_3 hP hD hS => ?_)
      subst h_3
      have hP : va_P g.1 vwCl [(oX7 z0 y0 (nI n) (nI k) fa pl z1), (aB g y0 500 tp)] H := hP
      have hD : va_D A [(oX7 z0 y0 (nI n) (nI k) fa pl z1), (aB g y0 500 tp)] := hD
      refine lv_icmp_gt (tgt := 67) hx hb dX7_kindOf_14 (by decide) (fun c_4 => ?_) (fun c_4 => ?_)
      · have k_5 : 41 < i := (he_clt (a := 41) (b := i) (by decide) rfl (by omega) (by omega)).mp c_4
        have hkn : kn = 8 := (hst.resolve_left (fun h9 => by have := ws6_le kn h9.1; omega)).1
        refine lv_iconst (v := (-1)) hx hb dX7_kindOf_67 (by decide) ?_
        exact he_ri hQ hx hb hr hlk hP hD hS dX7_kindOf_68 (Nat.le_of_ble_eq_true rfl) (Nat.le_of_ble_eq_true rfl) (()) (rfl) (Or.inr ⟨rfl, fun q hq => hno q (by omega)⟩)
      · have k_6 : ¬ (41 < i) := fun h9 => c_4 ((he_clt (a := 41) (b := i) (by decide) rfl (by omega) (by omega)).mpr h9)
        have hkw : kn < 8 ∧ f = (ws6.getD kn (0, 0)).1 ∧ f ≤ i ∧ i ≤ (ws6.getD kn (0, 0)).2 := hst.resolve_right (fun h9 => by omega)
        have hen := ws6_end kn hkw.1 i (by omega) (by omega) hkw.2.2.2
        have hwl := ws6_le kn hkw.1
        have join37 : ∀ (_ : Unit), (i = (ws6.getD kn (0, 0)).2) → ∀ (H : Heap) (locs : List Loc) (ls : Array Slot), va_P g.1 vwCl [(oX7 z0 y0 (nI n) (nI k) fa pl z1), (aB g y0 500 tp)] H → va_D A [(oX7 z0 y0 (nI n) (nI k) fa pl z1), (aB g y0 500 tp)] → va_S A s.heap H locs → lv_has ls 6 [(0, .ref z0), (1, .ref (g.2 10)), (2, .int (nI b)), (3, .int (nI kn)), (4, .int (nI f)), (5, .int (nI i))] → W p l e (he_room 5 110 0 0) s m args below meth c H locs 0 0 Q (F0 m 37 ls []) := by
          intro _ hend H locs ls hP hD hS hl
          refine lv_aload_n hx hb dX7_kindOf_37 rfl (lv_at hl 0 rfl) ?_
          refine lv_aload_n hx hb dX7_kindOf_38 rfl (lv_at hl 1 rfl) ?_
          refine lv_iload hx hb dX7_kindOf_39 (lv_at hl 4 rfl) ?_
          refine lv_iload hx hb dX7_kindOf_41 (lv_at hl 5 rfl) ?_
          refine lv_iload_n hx hb dX7_kindOf_43 rfl (lv_at hl 2 rfl) ?_
          refine he_ci (wc := [(oX7 z0 y0 (nI n) (nI k) fa pl z1), (aB g y0 500 tp)]) (wr := []) (va_runV (As := [.ref (g.2 10), .int (nI f), .int (nI i), .int (nI b)]) (rest := []) ⟨hx, hb, hml, hown, hts⟩ (p_X7_isSame6 l g z0 z1 y0 n k fa pl tp f i b (by first | assumption | decide | omega) (by first | assumption | decide | omega) (by first | assumption | decide | omega) (by first | assumption | decide | omega) (by first | assumption | decide | omega) H.size) (cwV 4 hts gX7_kindOf_X7_isSame rfl rfl rfl (by decide +kernel) ⟨Nat.le_of_ble_eq_true rfl, Nat.le_of_ble_eq_true rfl⟩) (he_preV (wc := [(oX7 z0 y0 (nI n) (nI k) fa pl z1), (aB g y0 500 tp)]) hK hP hD hS hA hE [0, 1] rfl rfl 0 rfl rfl) rfl rfl hl.1 rfl (lv_room (Nat.le_of_ble_eq_true rfl)) dX7_kindOf_44 ⟨(Nat.le_of_ble_eq_true rfl), (Nat.le_of_ble_eq_true rfl)⟩) hP hD hS hA [0, 1] [] rfl rfl rfl (by decide) (fun r_7 u_8 H locs h_9 hP hD hS => ?_)
          try dsimp only at h_9
          have hf_10 := h_9
          have hP : va_P g.1 vwCl [(oX7 z0 y0 (nI n) (nI k) fa pl z1), (aB g y0 500 tp)] H := hP
          have hD : va_D A [(oX7 z0 y0 (nI n) (nI k) fa pl z1), (aB g y0 500 tp)] := hD
          refine lv_if_eq (tgt := 52) hx hb dX7_kindOf_47 (by decide) (fun c_11 => ?_) (fun c_11 => ?_)
          · refine lv_iinc (v := nI (kn + 1)) (lv' := [(3, .int (nI (kn + 1))), (0, .ref z0), (1, .ref (g.2 10)), (2, .int (nI b)), (4, .int (nI f)), (5, .int (nI i))]) hx hb dX7_kindOf_52 hl (k := 3) rfl (nI_1 kn) (by decide) rfl (fun ls hl => ?_)
            refine lv_iload hx hb dX7_kindOf_55 (lv_at hl 5 rfl) ?_
            refine lv_iconst (v := 1) hx hb dX7_kindOf_57 (by decide) ?_
            refine lv_iadd hx hb dX7_kindOf_58 ?_
            refine he_top (nI (i + 1)) (nI_add i 1) ?_
            refine lv_istore (lv' := [(4, .int (nI (i + 1))), (3, .int (nI (kn + 1))), (0, .ref z0), (1, .ref (g.2 10)), (2, .int (nI b)), (5, .int (nI i))]) hx hb dX7_kindOf_59 hl (by decide) rfl (fun ls hl => ?_)
            refine lv_iinc (v := nI (i + 1)) (lv' := [(5, .int (nI (i + 1))), (4, .int (nI (i + 1))), (3, .int (nI (kn + 1))), (0, .ref z0), (1, .ref (g.2 10)), (2, .int (nI b))]) hx hb dX7_kindOf_61 hl (k := 5) rfl (nI_1 i) (by decide) rfl (fun ls hl => ?_)
            refine lv_goto (tgt := 8) hx hb dX7_kindOf_64 (by decide) ?_
            exact ih8 (i + 1) (i + 1) (kn + 1) (by omega) (by omega) (by omega) (by rcases (show kn + 1 < 8 ∨ kn + 1 = 8 by omega) with h8 | h8; exact Or.inl ⟨h8, by have := (ws6_nx kn (by omega)).1; omega, Nat.le_refl _, by have := (ws6_nx kn (by omega)).1; have := hwl.2.2.2; omega⟩; exact Or.inr ⟨h8, by have := hwl.2.2.1 (by omega); omega⟩) (fun q hq => (Nat.lt_succ_iff_lt_or_eq.mp hq).elim (hno q) (fun e9 => by rw [e9, ← hkw.2.1, ← hend]; exact (hf_10.resolve_left (fun h9 => by rw [c_11] at h9; exact absurd h9.1 (by decide))).2)) _ _ _ hP hD hS (lv_sub hl [3, 4, 5, 2, 1, 0] rfl)
          · refine lv_iload_n hx hb dX7_kindOf_50 rfl (lv_at hl 3 rfl) ?_
            exact he_ri hQ hx hb hr hlk hP hD hS dX7_kindOf_51 (Nat.le_of_ble_eq_true rfl) (Nat.le_of_ble_eq_true rfl) (()) (rfl) (Or.inl ⟨kn, hkw.1, rfl, by rw [← hkw.2.1, ← hend]; exact (hf_10.resolve_right (fun h9 => c_11 h9.1)).2, hno⟩)
        refine lv_iload hx hb dX7_kindOf_17 (lv_at hl 5 rfl) ?_
        refine lv_aload_n hx hb dX7_kindOf_19 rfl (lv_at hl 1 rfl) ?_
        refine he_ci (wc := []) (wr := [(oX7 z0 y0 (nI n) (nI k) fa pl z1), (aB g y0 500 tp)]) (va_runV (As := []) (rest := [.int (nI i)]) ⟨hx, hb, hml, hown, hts⟩ (g_J0_length6 l g  H.size) (cwV 0 hts gX7_kindOf_J0_length_8abf5 rfl rfl rfl (by decide +kernel) ⟨Nat.le_of_ble_eq_true rfl, Nat.le_of_ble_eq_true rfl⟩) (he_preO (wc := []) hK hP hD hS hA hE [] rfl rfl hE.words.2.1.2.1) rfl rfl hl.1 rfl (lv_room (Nat.le_of_ble_eq_true rfl)) dX7_kindOf_20 ⟨(Nat.le_of_ble_eq_true rfl), (Nat.le_of_ble_eq_true rfl)⟩) hP hD hS hA [] [0, 1] rfl rfl rfl (by decide) (fun r_12 u_13 H locs h_14 hP hD hS => ?_)
        subst h_14
        have hP : va_P g.1 vwCl [(oX7 z0 y0 (nI n) (nI k) fa pl z1), (aB g y0 500 tp)] H := hP
        have hD : va_D A [(oX7 z0 y0 (nI n) (nI k) fa pl z1), (aB g y0 500 tp)] := hD
        refine lv_icmp_eq (tgt := 37) hx hb dX7_kindOf_23 (by decide) (fun c_15 => ?_) (fun c_15 => ?_)
        · have k_16 : i = 41 := (he_ceq (a := i) (b := 41) rfl (by decide) (by omega) (by omega)).mp c_15
          exact join37 () (hen.mp (Or.inl (by omega))) _ _ _ hP hD hS (lv_sub hl [0, 1, 2, 3, 4, 5] rfl)
        · have k_17 : ¬ (i = 41) := fun h9 => c_15 ((he_ceq (a := i) (b := 41) rfl (by decide) (by omega) (by omega)).mpr h9)
          refine lv_aload_n hx hb dX7_kindOf_26 rfl (lv_at hl 1 rfl) ?_
          refine lv_iload hx hb dX7_kindOf_27 (lv_at hl 5 rfl) ?_
          refine he_ci (wc := []) (wr := [(oX7 z0 y0 (nI n) (nI k) fa pl z1), (aB g y0 500 tp)]) (va_runV (As := [.int (nI i)]) (rest := []) ⟨hx, hb, hml, hown, hts⟩ (g_J0_charAt6 l g i (by first | assumption | decide | omega) H.size) (cwV 1 hts gX7_kindOf_J0_charAt_5068e rfl rfl rfl (by decide +kernel) ⟨Nat.le_of_ble_eq_true rfl, Nat.le_of_ble_eq_true rfl⟩) (he_preO (wc := []) hK hP hD hS hA hE [] rfl rfl hE.words.2.1.2.1) rfl rfl hl.1 rfl (lv_room (Nat.le_of_ble_eq_true rfl)) dX7_kindOf_29 ⟨(Nat.le_of_ble_eq_true rfl), (Nat.le_of_ble_eq_true rfl)⟩) hP hD hS hA [] [0, 1] rfl rfl rfl (by decide) (fun r_18 u_19 H locs h_20 hP hD hS => ?_)
          subst h_20
          have hP : va_P g.1 vwCl [(oX7 z0 y0 (nI n) (nI k) fa pl z1), (aB g y0 500 tp)] H := hP
          have hD : va_D A [(oX7 z0 y0 (nI n) (nI k) fa pl z1), (aB g y0 500 tp)] := hD
          refine lv_bipush (v := 32) hx hb dX7_kindOf_32 (by decide) ?_
          refine lv_icmp_ne (tgt := 61) hx hb dX7_kindOf_34 (by decide) (fun c_21 => ?_) (fun c_21 => ?_)
          · refine lv_iinc (v := nI (i + 1)) (lv' := [(5, .int (nI (i + 1))), (0, .ref z0), (1, .ref (g.2 10)), (2, .int (nI b)), (3, .int (nI kn)), (4, .int (nI f))]) hx hb dX7_kindOf_61 hl (k := 5) rfl (nI_1 i) (by decide) rfl (fun ls hl => ?_)
            refine lv_goto (tgt := 8) hx hb dX7_kindOf_64 (by decide) ?_
            exact ih8 (i + 1) f kn (by omega) (by omega) (by omega) (Or.inl ⟨hkw.1, hkw.2.1, by omega, by have h8 : i ≠ (ws6.getD kn (0, 0)).2 := fun h9 => (hen.mpr h9).elim (by omega) (fun h7 => c_21 h7); omega⟩) hno _ _ _ hP hD hS (lv_sub hl [1, 2, 3, 4, 5, 0] rfl)
          · exact join37 () (hen.mp (Or.inr c_21)) _ _ _ hP hD hS (lv_sub hl [0, 1, 2, 3, 4, 5] rfl)
  exact loop8 ((42 - 0) + 1) 0 0 0 (Nat.lt_succ_self _) (Nat.zero_le _) (Nat.zero_le _) (Or.inl ⟨by decide, rfl, Nat.le_refl _, by decide⟩) (fun q hq => absurd hq (Nat.not_lt_zero q)) _ _ _ hP hD hS (lv_sub hl [3, 4, 5, 2, 1, 0] rfl)
set_option maxHeartbeats 4000000 in
set_option maxRecDepth 100000 in
theorem p_X7_kindOf5 (l : Launch) (g : he_G) (z0 : Nat) (z1 : Nat) (y0 : Nat) (n : Nat) (k : Nat) (fa : Int32) (pl : Int32) (tp : Nat → Int32) (b : Nat) (hk : k ≤ n) (hn : n ≤ 500) (hb9 : b ≤ k) : he_I l yX7_kindOf wsX7_kindOf 5 110 0 0 g [.ref z0, .ref (g.2 11), .int (nI b)] [(oX7 z0 y0 (nI n) (nI k) fa pl z1), (aB g y0 500 tp)] (fun (r : Int32) (u : Unit) => (∃ q, q < 7 ∧ r = nI q ∧ sameW he_w5 tp b k (ws5.getD q (0, 0)).1 (ws5.getD q (0, 0)).2 ∧ ∀ j, j < q → ¬ sameW he_w5 tp b k (ws5.getD j (0, 0)).1 (ws5.getD j (0, 0)).2) ∨ (r = -1 ∧ ∀ q, q < 7 → ¬ sameW he_w5 tp b k (ws5.getD q (0, 0)).1 (ws5.getD q (0, 0)).2)) (fun (u : Unit) => [(oX7 z0 y0 (nI n) (nI k) fa pl z1), (aB g y0 500 tp)]) := by
  refine he_begin (l := l) (g := g) (y := yX7_kindOf) (wl := wsX7_kindOf) (fr := 5) (lo := 110) (mc := 0) (ms := 0) (av := [.ref z0, .ref (g.2 11), .int (nI b)]) (ws := [(oX7 z0 y0 (nI n) (nI k) fa pl z1), (aB g y0 500 tp)]) (cc := cX7_kindOf) (maxL := 6) (ret := (some .int)) (fun A => va_Qi (fun (r : Int32) (u : Unit) => (∃ q, q < 7 ∧ r = nI q ∧ sameW he_w5 tp b k (ws5.getD q (0, 0)).1 (ws5.getD q (0, 0)).2 ∧ ∀ j, j < q → ¬ sameW he_w5 tp b k (ws5.getD j (0, 0)).1 (ws5.getD j (0, 0)).2) ∨ (r = -1 ∧ ∀ q, q < 7 → ¬ sameW he_w5 tp b k (ws5.getD q (0, 0)).1 (ws5.getD q (0, 0)).2)) (fun u t => he_post g A ((fun (u : Unit) => [(oX7 z0 y0 (nI n) (nI k) fa pl z1), (aB g y0 500 tp)]) u) t) A) (by decide) rfl (Nat.le_of_ble_eq_true rfl) ?_
  intro p e s m args below meth c A ls H locs Q hQ hB
  obtain ⟨hx, hb, hr, hml, hown, hts, hlk, hin, hP, hK, hD, hS, hA, hE, hl⟩ := hB
  have hl : lv_has ls 6 [(0, .ref z0), (1, .ref (g.2 11)), (2, .int (nI b))] := hl
  refine lv_iconst (v := 0) hx hb dX7_kindOf_0 (by decide) ?_
  refine lv_istore_n (lv' := [(3, .int 0), (0, .ref z0), (1, .ref (g.2 11)), (2, .int (nI b))]) hx hb dX7_kindOf_1 rfl hl (by decide) rfl (fun ls hl => ?_)
  refine lv_iconst (v := 0) hx hb dX7_kindOf_2 (by decide) ?_
  refine lv_istore (lv' := [(4, .int 0), (3, .int 0), (0, .ref z0), (1, .ref (g.2 11)), (2, .int (nI b))]) hx hb dX7_kindOf_3 hl (by decide) rfl (fun ls hl => ?_)
  refine lv_iconst (v := 0) hx hb dX7_kindOf_5 (by decide) ?_
  refine lv_istore (lv' := [(5, .int 0), (4, .int 0), (3, .int 0), (0, .ref z0), (1, .ref (g.2 11)), (2, .int (nI b))]) hx hb dX7_kindOf_6 hl (by decide) rfl (fun ls hl => ?_)
  have loop8 : ∀ (n9 : Nat) (i : Nat) (f : Nat) (kn : Nat), 40 - i < n9 → (i ≤ 40) → (kn ≤ 7) → ((kn < 7 ∧ f = (ws5.getD kn (0, 0)).1 ∧ f ≤ i ∧ i ≤ (ws5.getD kn (0, 0)).2) ∨ (kn = 7 ∧ i = 40)) → (∀ q, q < kn → ¬ sameW he_w5 tp b k (ws5.getD q (0, 0)).1 (ws5.getD q (0, 0)).2) → ∀ (H : Heap) (locs : List Loc) (ls : Array Slot), va_P g.1 vwCl [(oX7 z0 y0 (nI n) (nI k) fa pl z1), (aB g y0 500 tp)] H → va_D A [(oX7 z0 y0 (nI n) (nI k) fa pl z1), (aB g y0 500 tp)] → va_S A s.heap H locs → lv_has ls 6 [(0, .ref z0), (1, .ref (g.2 11)), (2, .int (nI b)), (3, .int (nI kn)), (4, .int (nI f)), (5, .int (nI i))] → W p l e (he_room 5 110 0 0) s m args below meth c H locs 0 0 Q (F0 m 8 ls []) := by
    intro n9
    induction n9 with
    | zero => intro i f kn hm9; exact absurd hm9 (Nat.not_lt_zero _)
    | succ n9 ih8 =>
      intro i f kn hm9 hi hkd hst hno H locs ls hP hD hS hl
      refine lv_iload hx hb dX7_kindOf_8 (lv_at hl 5 rfl) ?_
      refine lv_aload_n hx hb dX7_kindOf_10 rfl (lv_at hl 1 rfl) ?_
      refine he_ci (wc := []) (wr := [(oX7 z0 y0 (nI n) (nI k) fa pl z1), (aB g y0 500 tp)]) (va_runV (As := []) (rest := [.int (nI i)]) ⟨hx, hb, hml, hown, hts⟩ (g_J0_length5 l g  H.size) (cwV 0 hts gX7_kindOf_J0_length_8abf5 rfl rfl rfl (by decide +kernel) ⟨Nat.le_of_ble_eq_true rfl, Nat.le_of_ble_eq_true rfl⟩) (he_preO (wc := []) hK hP hD hS hA hE [] rfl rfl hE.words.2.2.2.1) rfl rfl hl.1 rfl (lv_room (Nat.le_of_ble_eq_true rfl)) dX7_kindOf_11 ⟨(Nat.le_of_ble_eq_true rfl), (Nat.le_of_ble_eq_true rfl)⟩) hP hD hS hA [] [0, 1] rfl rfl rfl (by decide) (fun r_1 u_2 H locs h_3 hP hD hS => ?_)
      subst h_3
      have hP : va_P g.1 vwCl [(oX7 z0 y0 (nI n) (nI k) fa pl z1), (aB g y0 500 tp)] H := hP
      have hD : va_D A [(oX7 z0 y0 (nI n) (nI k) fa pl z1), (aB g y0 500 tp)] := hD
      refine lv_icmp_gt (tgt := 67) hx hb dX7_kindOf_14 (by decide) (fun c_4 => ?_) (fun c_4 => ?_)
      · have k_5 : 39 < i := (he_clt (a := 39) (b := i) (by decide) rfl (by omega) (by omega)).mp c_4
        have hkn : kn = 7 := (hst.resolve_left (fun h9 => by have := ws5_le kn h9.1; omega)).1
        refine lv_iconst (v := (-1)) hx hb dX7_kindOf_67 (by decide) ?_
        exact he_ri hQ hx hb hr hlk hP hD hS dX7_kindOf_68 (Nat.le_of_ble_eq_true rfl) (Nat.le_of_ble_eq_true rfl) (()) (rfl) (Or.inr ⟨rfl, fun q hq => hno q (by omega)⟩)
      · have k_6 : ¬ (39 < i) := fun h9 => c_4 ((he_clt (a := 39) (b := i) (by decide) rfl (by omega) (by omega)).mpr h9)
        have hkw : kn < 7 ∧ f = (ws5.getD kn (0, 0)).1 ∧ f ≤ i ∧ i ≤ (ws5.getD kn (0, 0)).2 := hst.resolve_right (fun h9 => by omega)
        have hen := ws5_end kn hkw.1 i (by omega) (by omega) hkw.2.2.2
        have hwl := ws5_le kn hkw.1
        have join37 : ∀ (_ : Unit), (i = (ws5.getD kn (0, 0)).2) → ∀ (H : Heap) (locs : List Loc) (ls : Array Slot), va_P g.1 vwCl [(oX7 z0 y0 (nI n) (nI k) fa pl z1), (aB g y0 500 tp)] H → va_D A [(oX7 z0 y0 (nI n) (nI k) fa pl z1), (aB g y0 500 tp)] → va_S A s.heap H locs → lv_has ls 6 [(0, .ref z0), (1, .ref (g.2 11)), (2, .int (nI b)), (3, .int (nI kn)), (4, .int (nI f)), (5, .int (nI i))] → W p l e (he_room 5 110 0 0) s m args below meth c H locs 0 0 Q (F0 m 37 ls []) := by
          intro _ hend H locs ls hP hD hS hl
          refine lv_aload_n hx hb dX7_kindOf_37 rfl (lv_at hl 0 rfl) ?_
          refine lv_aload_n hx hb dX7_kindOf_38 rfl (lv_at hl 1 rfl) ?_
          refine lv_iload hx hb dX7_kindOf_39 (lv_at hl 4 rfl) ?_
          refine lv_iload hx hb dX7_kindOf_41 (lv_at hl 5 rfl) ?_
          refine lv_iload_n hx hb dX7_kindOf_43 rfl (lv_at hl 2 rfl) ?_
          refine he_ci (wc := [(oX7 z0 y0 (nI n) (nI k) fa pl z1), (aB g y0 500 tp)]) (wr := []) (va_runV (As := [.ref (g.2 11), .int (nI f), .int (nI i), .int (nI b)]) (rest := []) ⟨hx, hb, hml, hown, hts⟩ (p_X7_isSame5 l g z0 z1 y0 n k fa pl tp f i b (by first | assumption | decide | omega) (by first | assumption | decide | omega) (by first | assumption | decide | omega) (by first | assumption | decide | omega) (by first | assumption | decide | omega) H.size) (cwV 4 hts gX7_kindOf_X7_isSame rfl rfl rfl (by decide +kernel) ⟨Nat.le_of_ble_eq_true rfl, Nat.le_of_ble_eq_true rfl⟩) (he_preV (wc := [(oX7 z0 y0 (nI n) (nI k) fa pl z1), (aB g y0 500 tp)]) hK hP hD hS hA hE [0, 1] rfl rfl 0 rfl rfl) rfl rfl hl.1 rfl (lv_room (Nat.le_of_ble_eq_true rfl)) dX7_kindOf_44 ⟨(Nat.le_of_ble_eq_true rfl), (Nat.le_of_ble_eq_true rfl)⟩) hP hD hS hA [0, 1] [] rfl rfl rfl (by decide) (fun r_7 u_8 H locs h_9 hP hD hS => ?_)
          try dsimp only at h_9
          have hf_10 := h_9
          have hP : va_P g.1 vwCl [(oX7 z0 y0 (nI n) (nI k) fa pl z1), (aB g y0 500 tp)] H := hP
          have hD : va_D A [(oX7 z0 y0 (nI n) (nI k) fa pl z1), (aB g y0 500 tp)] := hD
          refine lv_if_eq (tgt := 52) hx hb dX7_kindOf_47 (by decide) (fun c_11 => ?_) (fun c_11 => ?_)
          · refine lv_iinc (v := nI (kn + 1)) (lv' := [(3, .int (nI (kn + 1))), (0, .ref z0), (1, .ref (g.2 11)), (2, .int (nI b)), (4, .int (nI f)), (5, .int (nI i))]) hx hb dX7_kindOf_52 hl (k := 3) rfl (nI_1 kn) (by decide) rfl (fun ls hl => ?_)
            refine lv_iload hx hb dX7_kindOf_55 (lv_at hl 5 rfl) ?_
            refine lv_iconst (v := 1) hx hb dX7_kindOf_57 (by decide) ?_
            refine lv_iadd hx hb dX7_kindOf_58 ?_
            refine he_top (nI (i + 1)) (nI_add i 1) ?_
            refine lv_istore (lv' := [(4, .int (nI (i + 1))), (3, .int (nI (kn + 1))), (0, .ref z0), (1, .ref (g.2 11)), (2, .int (nI b)), (5, .int (nI i))]) hx hb dX7_kindOf_59 hl (by decide) rfl (fun ls hl => ?_)
            refine lv_iinc (v := nI (i + 1)) (lv' := [(5, .int (nI (i + 1))), (4, .int (nI (i + 1))), (3, .int (nI (kn + 1))), (0, .ref z0), (1, .ref (g.2 11)), (2, .int (nI b))]) hx hb dX7_kindOf_61 hl (k := 5) rfl (nI_1 i) (by decide) rfl (fun ls hl => ?_)
            refine lv_goto (tgt := 8) hx hb dX7_kindOf_64 (by decide) ?_
            exact ih8 (i + 1) (i + 1) (kn + 1) (by omega) (by omega) (by omega) (by rcases (show kn + 1 < 7 ∨ kn + 1 = 7 by omega) with h8 | h8; exact Or.inl ⟨h8, by have := (ws5_nx kn (by omega)).1; omega, Nat.le_refl _, by have := (ws5_nx kn (by omega)).1; have := hwl.2.2.2; omega⟩; exact Or.inr ⟨h8, by have := hwl.2.2.1 (by omega); omega⟩) (fun q hq => (Nat.lt_succ_iff_lt_or_eq.mp hq).elim (hno q) (fun e9 => by rw [e9, ← hkw.2.1, ← hend]; exact (hf_10.resolve_left (fun h9 => by rw [c_11] at h9; exact absurd h9.1 (by decide))).2)) _ _ _ hP hD hS (lv_sub hl [3, 4, 5, 2, 1, 0] rfl)
          · refine lv_iload_n hx hb dX7_kindOf_50 rfl (lv_at hl 3 rfl) ?_
            exact he_ri hQ hx hb hr hlk hP hD hS dX7_kindOf_51 (Nat.le_of_ble_eq_true rfl) (Nat.le_of_ble_eq_true rfl) (()) (rfl) (Or.inl ⟨kn, hkw.1, rfl, by rw [← hkw.2.1, ← hend]; exact (hf_10.resolve_right (fun h9 => c_11 h9.1)).2, hno⟩)
        refine lv_iload hx hb dX7_kindOf_17 (lv_at hl 5 rfl) ?_
        refine lv_aload_n hx hb dX7_kindOf_19 rfl (lv_at hl 1 rfl) ?_
        refine he_ci (wc := []) (wr := [(oX7 z0 y0 (nI n) (nI k) fa pl z1), (aB g y0 500 tp)]) (va_runV (As := []) (rest := [.int (nI i)]) ⟨hx, hb, hml, hown, hts⟩ (g_J0_length5 l g  H.size) (cwV 0 hts gX7_kindOf_J0_length_8abf5 rfl rfl rfl (by decide +kernel) ⟨Nat.le_of_ble_eq_true rfl, Nat.le_of_ble_eq_true rfl⟩) (he_preO (wc := []) hK hP hD hS hA hE [] rfl rfl hE.words.2.2.2.1) rfl rfl hl.1 rfl (lv_room (Nat.le_of_ble_eq_true rfl)) dX7_kindOf_20 ⟨(Nat.le_of_ble_eq_true rfl), (Nat.le_of_ble_eq_true rfl)⟩) hP hD hS hA [] [0, 1] rfl rfl rfl (by decide) (fun r_12 u_13 H locs h_14 hP hD hS => ?_)
        subst h_14
        have hP : va_P g.1 vwCl [(oX7 z0 y0 (nI n) (nI k) fa pl z1), (aB g y0 500 tp)] H := hP
        have hD : va_D A [(oX7 z0 y0 (nI n) (nI k) fa pl z1), (aB g y0 500 tp)] := hD
        refine lv_icmp_eq (tgt := 37) hx hb dX7_kindOf_23 (by decide) (fun c_15 => ?_) (fun c_15 => ?_)
        · have k_16 : i = 39 := (he_ceq (a := i) (b := 39) rfl (by decide) (by omega) (by omega)).mp c_15
          exact join37 () (hen.mp (Or.inl (by omega))) _ _ _ hP hD hS (lv_sub hl [0, 1, 2, 3, 4, 5] rfl)
        · have k_17 : ¬ (i = 39) := fun h9 => c_15 ((he_ceq (a := i) (b := 39) rfl (by decide) (by omega) (by omega)).mpr h9)
          refine lv_aload_n hx hb dX7_kindOf_26 rfl (lv_at hl 1 rfl) ?_
          refine lv_iload hx hb dX7_kindOf_27 (lv_at hl 5 rfl) ?_
          refine he_ci (wc := []) (wr := [(oX7 z0 y0 (nI n) (nI k) fa pl z1), (aB g y0 500 tp)]) (va_runV (As := [.int (nI i)]) (rest := []) ⟨hx, hb, hml, hown, hts⟩ (g_J0_charAt5 l g i (by first | assumption | decide | omega) H.size) (cwV 1 hts gX7_kindOf_J0_charAt_5068e rfl rfl rfl (by decide +kernel) ⟨Nat.le_of_ble_eq_true rfl, Nat.le_of_ble_eq_true rfl⟩) (he_preO (wc := []) hK hP hD hS hA hE [] rfl rfl hE.words.2.2.2.1) rfl rfl hl.1 rfl (lv_room (Nat.le_of_ble_eq_true rfl)) dX7_kindOf_29 ⟨(Nat.le_of_ble_eq_true rfl), (Nat.le_of_ble_eq_true rfl)⟩) hP hD hS hA [] [0, 1] rfl rfl rfl (by decide) (fun r_18 u_19 H locs h_20 hP hD hS => ?_)
          subst h_20
          have hP : va_P g.1 vwCl [(oX7 z0 y0 (nI n) (nI k) fa pl z1), (aB g y0 500 tp)] H := hP
          have hD : va_D A [(oX7 z0 y0 (nI n) (nI k) fa pl z1), (aB g y0 500 tp)] := hD
          refine lv_bipush (v := 32) hx hb dX7_kindOf_32 (by decide) ?_
          refine lv_icmp_ne (tgt := 61) hx hb dX7_kindOf_34 (by decide) (fun c_21 => ?_) (fun c_21 => ?_)
          · refine lv_iinc (v := nI (i + 1)) (lv' := [(5, .int (nI (i + 1))), (0, .ref z0), (1, .ref (g.2 11)), (2, .int (nI b)), (3, .int (nI kn)), (4, .int (nI f))]) hx hb dX7_kindOf_61 hl (k := 5) rfl (nI_1 i) (by decide) rfl (fun ls hl => ?_)
            refine lv_goto (tgt := 8) hx hb dX7_kindOf_64 (by decide) ?_
            exact ih8 (i + 1) f kn (by omega) (by omega) (by omega) (Or.inl ⟨hkw.1, hkw.2.1, by omega, by have h8 : i ≠ (ws5.getD kn (0, 0)).2 := fun h9 => (hen.mpr h9).elim (by omega) (fun h7 => c_21 h7); omega⟩) hno _ _ _ hP hD hS (lv_sub hl [1, 2, 3, 4, 5, 0] rfl)
          · exact join37 () (hen.mp (Or.inr c_21)) _ _ _ hP hD hS (lv_sub hl [0, 1, 2, 3, 4, 5] rfl)
  exact loop8 ((40 - 0) + 1) 0 0 0 (Nat.lt_succ_self _) (Nat.zero_le _) (Nat.zero_le _) (Or.inl ⟨by decide, rfl, Nat.le_refl _, by decide⟩) (fun q hq => absurd hq (Nat.not_lt_zero q)) _ _ _ hP hD hS (lv_sub hl [3, 4, 5, 2, 1, 0] rfl)
