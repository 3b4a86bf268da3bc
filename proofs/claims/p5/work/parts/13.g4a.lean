/-- what a number read gives: within its bounds, where it was taken -/
theorem within_le {x a b : Int32} (h : ¬ he_within x a b = 0) : a ≤ x ∧ x ≤ b := by
  unfold he_within at h
  by_cases h1 : x < a
  · simp [h1] at h
  · by_cases h2 : b < x
    · simp [h1, h2] at h
    · exact ⟨Int32.not_lt.mp h1, Int32.not_lt.mp h2⟩
theorem rd_3 {x v pw : Int32} (hx : x = 3) (h : ¬ he_within v (loP x) (hiP x 0 pw) = 0) : ∃ ck, ck ≤ 99 ∧ v = nI ck := by
  subst hx
  have e1 : loP 3 = 0 := by decide
  have e2 : hiP 3 0 pw = 99 := by unfold hiP; rw [if_neg (by decide), if_neg (by decide)]; decide
  rw [e1, e2] at h
  obtain ⟨q1, q2⟩ := he_within_nat (B := 99) rfl (by decide) h
  exact ⟨_, q2, q1⟩
theorem rd_6 {x v pw : Int32} (hx : x = 6) (h : ¬ he_within v (loP x) (hiP x 0 pw) = 0) : -1 ≤ v := by
  subst hx
  have e1 : loP 6 = 0 := by decide
  rw [e1] at h
  exact Int32.le_trans (by decide) (within_le h).1
theorem min3 {x : Int32} {j : Nat} (hj : j < 2147483648) (h : ¬ (if (3 : Int32) < x then 3 else x) ≤ nI j) : j < 3 := by
  have h1 := Int32.lt_iff_toInt_lt.mp (Int32.not_le.mp h)
  rw [nI_toInt hj] at h1
  have e3 : (3 : Int32).toInt = 3 := by decide
  split at h1
  · omega
  · rename_i h2
    have h3 := Int32.le_iff_toInt_le.mp (Int32.not_lt.mp h2)
    omega
theorem rd_step {nj nv : Nat → Int32} {j : Nat} {r kd pw : Int32} (h : j = 0 ∨ ¬ he_within (nj 0) (loP kd) (hiP kd 0 pw) = 0) (h2 : r = 0 ∨ (r = 1 ∧ ∃ v, nv = upd nj j v ∧ ¬ he_within v (loP kd) (hiP kd (nI j) pw) = 0)) (hr : ¬ r = 0) : j + 1 = 0 ∨ ¬ he_within (nv 0) (loP kd) (hiP kd 0 pw) = 0 := by
  obtain ⟨-, v, e, hv⟩ := h2.resolve_left hr
  subst e
  right
  by_cases h9 : j = 0
  · subst h9
    rw [upd_s]
    exact hv
  · rw [upd_n (fun h8 => h9 h8.symm)]
    exact h.resolve_left h9
theorem min3_1 {x : Int32} (h : x = 1 ∨ x = 2) : ¬ (if (3 : Int32) < x then 3 else x) ≤ nI 0 := by rcases h with rfl | rfl <;> decide
set_option maxHeartbeats 4000000 in
set_option maxRecDepth 100000 in
theorem g_X7_skipBlanks (l : Launch) (g : he_G) (z0 : Nat) (z1 : Nat) (y0 : Nat) (n : Nat) (k : Nat) (fa : Int32) (pl : Int32) (tp : Nat → Int32) (hk : k ≤ n) (hn : n ≤ 500) : he_V l yX7_skipBlanks wsX7_skipBlanks 0 0 0 0 g [.ref z0] [(oX7 z0 y0 (nI n) (nI k) fa pl z1), (aB g y0 500 tp)] (fun (u : Nat) => k ≤ u ∧ u ≤ n) (fun (u : Nat) => [(oX7 z0 y0 (nI n) (nI u) fa pl z1), (aB g y0 500 tp)]) := by
  refine he_begin (l := l) (g := g) (y := yX7_skipBlanks) (wl := wsX7_skipBlanks) (fr := 0) (lo := 0) (mc := 0) (ms := 0) (av := [.ref z0]) (ws := [(oX7 z0 y0 (nI n) (nI k) fa pl z1), (aB g y0 500 tp)]) (cc := cX7_skipBlanks) (maxL := 1) (ret := none) (fun A => va_Qv (fun (u : Nat) => k ≤ u ∧ u ≤ n) (fun u t => he_post g A ((fun (u : Nat) => [(oX7 z0 y0 (nI n) (nI u) fa pl z1), (aB g y0 500 tp)]) u) t) A) (by decide) rfl (Nat.le_of_ble_eq_true rfl) ?_
  intro p e s m args below meth c A ls H locs Q hQ hB
  obtain ⟨hx, hb, hr, hml, hown, hts, hlk, hin, hP, hK, hD, hS, hA, hE, hl⟩ := hB
  have hl : lv_has ls 1 [(0, .ref z0)] := hl
  have f32 := hts (.fieldLink RX7 32 "HiredEnemy$Reader" "at" "I") (iwoX7_skipBlanks (k := 0) rfl)
  have inX7 : ∀ w ∈ wsX70, w ∈ wsX7_skipBlanks := innX7_skipBlanks_X7
  have f29 := hts (.fieldLink RX7 29 "HiredEnemy$Reader" "length" "I") (iwoX7_skipBlanks (k := 1) rfl)
  have f9 := hts (.fieldLink RX7 9 "HiredEnemy$Reader" "bytes" "[B") (iwoX7_skipBlanks (k := 2) rfl)
  have loop0 : ∀ (n9 : Nat) (i : Nat), n - i < n9 → (k ≤ i) → (i ≤ n) → ∀ (H : Heap) (locs : List Loc) (ls : Array Slot), va_P g.1 vwCl [(oX7 z0 y0 (nI n) (nI i) fa pl z1), (aB g y0 500 tp)] H → va_D A [(oX7 z0 y0 (nI n) (nI i) fa pl z1), (aB g y0 500 tp)] → va_S A s.heap H locs → lv_has ls 1 [(0, .ref z0)] → W p l e (he_room 0 0 0 0) s m args below meth c H locs 0 0 Q (F0 m 0 ls []) := by
    intro n9
    induction n9 with
    | zero => intro i hm9; exact absurd hm9 (Nat.not_lt_zero _)
    | succ n9 ih0 =>
      intro i hm9 hi1 hi2 H locs ls hP hD hS hl
      refine lv_aload_n hx hb dX7_skipBlanks_0 rfl (lv_at hl 0 rfl) ?_
      refine va_get (v := .int (nI i)) (T := TX7) (N := 6) hx hb hts inX7 hown hK hP 0 rfl rfl 2 (by decide) f32 (fun _ h9 => h9) rfl dX7_skipBlanks_1 ?_
      refine lv_aload_n hx hb dX7_skipBlanks_4 rfl (lv_at hl 0 rfl) ?_
      refine va_get (v := .int (nI n)) (T := TX7) (N := 6) hx hb hts inX7 hown hK hP 0 rfl rfl 1 (by decide) f29 (fun _ h9 => h9) rfl dX7_skipBlanks_5 ?_
      refine lv_icmp_ge (tgt := 38) hx hb dX7_skipBlanks_8 (by decide) (fun c_1 => ?_) (fun c_1 => ?_)
      · have k_2 : n ≤ i := (he_cle (a := n) (b := i) rfl rfl (by omega) (by omega)).mp c_1
        exact he_rv hQ hx hb hr hlk hP hD hS dX7_skipBlanks_38 (Nat.le_of_ble_eq_true rfl) (Nat.le_of_ble_eq_true rfl) (i) (rfl) (⟨by omega, by omega⟩)
      · have k_3 : ¬ (n ≤ i) := fun h9 => c_1 ((he_cle (a := n) (b := i) rfl rfl (by omega) (by omega)).mpr h9)
        refine lv_aload_n hx hb dX7_skipBlanks_11 rfl (lv_at hl 0 rfl) ?_
        refine va_get (v := .ref y0) (T := TX7) (N := 6) hx hb hts inX7 hown hK hP 0 rfl rfl 0 (by decide) f9 (fun _ h9 => h9) rfl dX7_skipBlanks_12 ?_
        refine lv_aload_n hx hb dX7_skipBlanks_15 rfl (lv_at hl 0 rfl) ?_
        refine va_get (v := .int (nI i)) (T := TX7) (N := 6) hx hb hts inX7 hown hK hP 0 rfl rfl 2 (by decide) f32 (fun _ h9 => h9) rfl dX7_skipBlanks_16 ?_
        refine he_bald hx hb hK hP 1 rfl (i) rfl (by first | assumption | decide | omega) (by first | decide | assumption) (tp i) rfl dX7_skipBlanks_19 ?_
        refine lv_bipush (v := 32) hx hb dX7_skipBlanks_20 (by decide) ?_
        refine lv_icmp_ne (tgt := 38) hx hb dX7_skipBlanks_22 (by decide) (fun c_4 => ?_) (fun c_4 => ?_)
        · exact he_rv hQ hx hb hr hlk hP hD hS dX7_skipBlanks_38 (Nat.le_of_ble_eq_true rfl) (Nat.le_of_ble_eq_true rfl) (i) (rfl) (⟨by omega, by omega⟩)
        · refine lv_aload_n hx hb dX7_skipBlanks_25 rfl (lv_at hl 0 rfl) ?_
          refine lv_dup hx hb dX7_skipBlanks_26 rfl ?_
          refine va_get (v := .int (nI i)) (T := TX7) (N := 6) hx hb hts inX7 hown hK hP 0 rfl rfl 2 (by decide) f32 (fun _ h9 => h9) rfl dX7_skipBlanks_27 ?_
          refine lv_iconst (v := 1) hx hb dX7_skipBlanks_30 (by decide) ?_
          refine lv_iadd hx hb dX7_skipBlanks_31 ?_
          refine he_top (nI (i + 1)) (nI_add i 1) ?_
          refine va_put (v := .int (nI (i + 1))) (ty := .int) (T := TX7) (N := 6) hx hb hts inX7 tyX7 tyX7_ok nmX7 hown hK hP hD hS 0 rfl rfl 2 (by decide) f32 (fun _ h9 => h9) rfl (by decide +kernel) rfl rfl (Nat.le_of_ble_eq_true rfl) dX7_skipBlanks_32 (fun H locs hP hD hS => ?_)
          have hP : va_P g.1 vwCl [(oX7 z0 y0 (nI n) (nI (i + 1)) fa pl z1), (aB g y0 500 tp)] H := hP
          have hD : va_D A [(oX7 z0 y0 (nI n) (nI (i + 1)) fa pl z1), (aB g y0 500 tp)] := hD
          refine lv_goto (tgt := 0) hx hb dX7_skipBlanks_35 (by decide) ?_
          exact ih0 (i + 1) (by omega) (by omega) (by omega) _ _ _ hP hD hS (lv_sub hl [0] rfl)
  exact loop0 ((n - k) + 1) k (Nat.lt_succ_self _) (Nat.le_refl _) hk _ _ _ hP hD hS (lv_sub hl [0] rfl)
set_option maxHeartbeats 4000000 in
set_option maxRecDepth 100000 in
theorem g_X7_skipLetters (l : Launch) (g : he_G) (z0 : Nat) (z1 : Nat) (y0 : Nat) (n : Nat) (k : Nat) (fa : Int32) (pl : Int32) (tp : Nat → Int32) (hk : k ≤ n) (hn : n ≤ 500) : he_V l yX7_skipLetters wsX7_skipLetters 0 0 0 0 g [.ref z0] [(oX7 z0 y0 (nI n) (nI k) fa pl z1), (aB g y0 500 tp)] (fun (u : Nat) => k ≤ u ∧ u ≤ n) (fun (u : Nat) => [(oX7 z0 y0 (nI n) (nI u) fa pl z1), (aB g y0 500 tp)]) := by
  refine he_begin (l := l) (g := g) (y := yX7_skipLetters) (wl := wsX7_skipLetters) (fr := 0) (lo := 0) (mc := 0) (ms := 0) (av := [.ref z0]) (ws := [(oX7 z0 y0 (nI n) (nI k) fa pl z1), (aB g y0 500 tp)]) (cc := cX7_skipLetters) (maxL := 1) (ret := none) (fun A => va_Qv (fun (u : Nat) => k ≤ u ∧ u ≤ n) (fun u t => he_post g A ((fun (u : Nat) => [(oX7 z0 y0 (nI n) (nI u) fa pl z1), (aB g y0 500 tp)]) u) t) A) (by decide) rfl (Nat.le_of_ble_eq_true rfl) ?_
  intro p e s m args below meth c A ls H locs Q hQ hB
  obtain ⟨hx, hb, hr, hml, hown, hts, hlk, hin, hP, hK, hD, hS, hA, hE, hl⟩ := hB
  have hl : lv_has ls 1 [(0, .ref z0)] := hl
  have f32 := hts (.fieldLink RX7 32 "HiredEnemy$Reader" "at" "I") (iwoX7_skipLetters (k := 0) rfl)
  have inX7 : ∀ w ∈ wsX70, w ∈ wsX7_skipLetters := innX7_skipLetters_X7
  have f29 := hts (.fieldLink RX7 29 "HiredEnemy$Reader" "length" "I") (iwoX7_skipLetters (k := 1) rfl)
  have f9 := hts (.fieldLink RX7 9 "HiredEnemy$Reader" "bytes" "[B") (iwoX7_skipLetters (k := 2) rfl)
  have loop0 : ∀ (n9 : Nat) (i : Nat), n - i < n9 → (k ≤ i) → (i ≤ n) → ∀ (H : Heap) (locs : List Loc) (ls : Array Slot), va_P g.1 vwCl [(oX7 z0 y0 (nI n) (nI i) fa pl z1), (aB g y0 500 tp)] H → va_D A [(oX7 z0 y0 (nI n) (nI i) fa pl z1), (aB g y0 500 tp)] → va_S A s.heap H locs → lv_has ls 1 [(0, .ref z0)] → W p l e (he_room 0 0 0 0) s m args below meth c H locs 0 0 Q (F0 m 0 ls []) := by
    intro n9
    induction n9 with
    | zero => intro i hm9; exact absurd hm9 (Nat.not_lt_zero _)
    | succ n9 ih0 =>
      intro i hm9 hi1 hi2 H locs ls hP hD hS hl
      refine lv_aload_n hx hb dX7_skipLetters_0 rfl (lv_at hl 0 rfl) ?_
      refine va_get (v := .int (nI i)) (T := TX7) (N := 6) hx hb hts inX7 hown hK hP 0 rfl rfl 2 (by decide) f32 (fun _ h9 => h9) rfl dX7_skipLetters_1 ?_
      refine lv_aload_n hx hb dX7_skipLetters_4 rfl (lv_at hl 0 rfl) ?_
      refine va_get (v := .int (nI n)) (T := TX7) (N := 6) hx hb hts inX7 hown hK hP 0 rfl rfl 1 (by decide) f29 (fun _ h9 => h9) rfl dX7_skipLetters_5 ?_
      refine lv_icmp_ge (tgt := 52) hx hb dX7_skipLetters_8 (by decide) (fun c_1 => ?_) (fun c_1 => ?_)
      · have k_2 : n ≤ i := (he_cle (a := n) (b := i) rfl rfl (by omega) (by omega)).mp c_1
        exact he_rv hQ hx hb hr hlk hP hD hS dX7_skipLetters_52 (Nat.le_of_ble_eq_true rfl) (Nat.le_of_ble_eq_true rfl) (i) (rfl) (⟨by omega, by omega⟩)
      · have k_3 : ¬ (n ≤ i) := fun h9 => c_1 ((he_cle (a := n) (b := i) rfl rfl (by omega) (by omega)).mpr h9)
        refine lv_aload_n hx hb dX7_skipLetters_11 rfl (lv_at hl 0 rfl) ?_
        refine va_get (v := .ref y0) (T := TX7) (N := 6) hx hb hts inX7 hown hK hP 0 rfl rfl 0 (by decide) f9 (fun _ h9 => h9) rfl dX7_skipLetters_12 ?_
        refine lv_aload_n hx hb dX7_skipLetters_15 rfl (lv_at hl 0 rfl) ?_
        refine va_get (v := .int (nI i)) (T := TX7) (N := 6) hx hb hts inX7 hown hK hP 0 rfl rfl 2 (by decide) f32 (fun _ h9 => h9) rfl dX7_skipLetters_16 ?_
        refine he_bald hx hb hK hP 1 rfl (i) rfl (by first | assumption | decide | omega) (by first | decide | assumption) (tp i) rfl dX7_skipLetters_19 ?_
        refine lv_bipush (v := 97) hx hb dX7_skipLetters_20 (by decide) ?_
        refine lv_icmp_lt (tgt := 52) hx hb dX7_skipLetters_22 (by decide) (fun c_4 => ?_) (fun c_4 => ?_)
        · exact he_rv hQ hx hb hr hlk hP hD hS dX7_skipLetters_52 (Nat.le_of_ble_eq_true rfl) (Nat.le_of_ble_eq_true rfl) (i) (rfl) (⟨by omega, by omega⟩)
        · refine lv_aload_n hx hb dX7_skipLetters_25 rfl (lv_at hl 0 rfl) ?_
          refine va_get (v := .ref y0) (T := TX7) (N := 6) hx hb hts inX7 hown hK hP 0 rfl rfl 0 (by decide) f9 (fun _ h9 => h9) rfl dX7_skipLetters_26 ?_
          refine lv_aload_n hx hb dX7_skipLetters_29 rfl (lv_at hl 0 rfl) ?_
          refine va_get (v := .int (nI i)) (T := TX7) (N := 6) hx hb hts inX7 hown hK hP 0 rfl rfl 2 (by decide) f32 (fun _ h9 => h9) rfl dX7_skipLetters_30 ?_
          refine he_bald hx hb hK hP 1 rfl (i) rfl (by first | assumption | decide | omega) (by first | decide | assumption) (tp i) rfl dX7_skipLetters_33 ?_
          refine lv_bipush (v := 122) hx hb dX7_skipLetters_34 (by decide) ?_
          refine lv_icmp_gt (tgt := 52) hx hb dX7_skipLetters_36 (by decide) (fun c_5 => ?_) (fun c_5 => ?_)
          · exact he_rv hQ hx hb hr hlk hP hD hS dX7_skipLetters_52 (Nat.le_of_ble_eq_true rfl) (Nat.le_of_ble_eq_true rfl) (i) (rfl) (⟨by omega, by omega⟩)
          · refine lv_aload_n hx hb dX7_skipLetters_39 rfl (lv_at hl 0 rfl) ?_
            refine lv_dup hx hb dX7_skipLetters_40 rfl ?_
            refine va_get (v := .int (nI i)) (T := TX7) (N := 6) hx hb hts inX7 hown hK hP 0 rfl rfl 2 (by decide) f32 (fun _ h9 => h9) rfl dX7_skipLetters_41 ?_
            refine lv_iconst (v := 1) hx hb dX7_skipLetters_44 (by decide) ?_
            refine lv_iadd hx hb dX7_skipLetters_45 ?_
            refine he_top (nI (i + 1)) (nI_add i 1) ?_
            refine va_put (v := .int (nI (i + 1))) (ty := .int) (T := TX7) (N := 6) hx hb hts inX7 tyX7 tyX7_ok nmX7 hown hK hP hD hS 0 rfl rfl 2 (by decide) f32 (fun _ h9 => h9) rfl (by decide +kernel) rfl rfl (Nat.le_of_ble_eq_true rfl) dX7_skipLetters_46 (fun H locs hP hD hS => ?_)
            have hP : va_P g.1 vwCl [(oX7 z0 y0 (nI n) (nI (i + 1)) fa pl z1), (aB g y0 500 tp)] H := hP
            have hD : va_D A [(oX7 z0 y0 (nI n) (nI (i + 1)) fa pl z1), (aB g y0 500 tp)] := hD
            refine lv_goto (tgt := 0) hx hb dX7_skipLetters_49 (by decide) ?_
            exact ih0 (i + 1) (by omega) (by omega) (by omega) _ _ _ hP hD hS (lv_sub hl [0] rfl)
  exact loop0 ((n - k) + 1) k (Nat.lt_succ_self _) (Nat.le_refl _) hk _ _ _ hP hD hS (lv_sub hl [0] rfl)
set_option maxHeartbeats 4000000 in
set_option maxRecDepth 100000 in
theorem g_X7_fail (l : Launch) (g : he_G) (z0 : Nat) (z1 : Nat) (y0 : Nat) (n : Nat) (k : Nat) (fa : Int32) (pl : Int32) (tp : Nat → Int32) (a : Int32) (b : Int32)  : he_I l yX7_fail wsX7_fail 0 0 0 0 g [.ref z0, .int a, .int b] [(oX7 z0 y0 (nI n) (nI k) fa pl z1), (aB g y0 500 tp)] (fun (r : Int32) (u : Unit) => r = 0) (fun (u : Unit) => [(oX7 z0 y0 (nI n) (nI k) a b z1), (aB g y0 500 tp)]) := by
  refine he_begin (l := l) (g := g) (y := yX7_fail) (wl := wsX7_fail) (fr := 0) (lo := 0) (mc := 0) (ms := 0) (av := [.ref z0, .int a, .int b]) (ws := [(oX7 z0 y0 (nI n) (nI k) fa pl z1), (aB g y0 500 tp)]) (cc := cX7_fail) (maxL := 3) (ret := (some .boolean)) (fun A => va_Qi (fun (r : Int32) (u : Unit) => r = 0) (fun u t => he_post g A ((fun (u : Unit) => [(oX7 z0 y0 (nI n) (nI k) a b z1), (aB g y0 500 tp)]) u) t) A) (by decide) rfl (Nat.le_of_ble_eq_true rfl) ?_
  intro p e s m args below meth c A ls H locs Q hQ hB
  obtain ⟨hx, hb, hr, hml, hown, hts, hlk, hin, hP, hK, hD, hS, hA, hE, hl⟩ := hB
  have hl : lv_has ls 3 [(0, .ref z0), (1, .int a), (2, .int b)] := hl
  have f35 := hts (.fieldLink RX7 35 "HiredEnemy$Reader" "fault" "I") (iwoX7_fail (k := 0) rfl)
  have inX7 : ∀ w ∈ wsX70, w ∈ wsX7_fail := innX7_fail_X7
  have f15 := hts (.fieldLink RX7 15 "HiredEnemy$Reader" "place" "I") (iwoX7_fail (k := 1) rfl)
  refine lv_aload_n hx hb dX7_fail_0 rfl (lv_at hl 0 rfl) ?_
  refine lv_iload_n hx hb dX7_fail_1 rfl (lv_at hl 1 rfl) ?_
  refine va_put (v := .int a) (ty := .int) (T := TX7) (N := 6) hx hb hts inX7 tyX7 tyX7_ok nmX7 hown hK hP hD hS 0 rfl rfl 3 (by decide) f35 (fun _ h9 => h9) rfl (by decide +kernel) rfl rfl (Nat.le_of_ble_eq_true rfl) dX7_fail_2 (fun H locs hP hD hS => ?_)
  have hP : va_P g.1 vwCl [(oX7 z0 y0 (nI n) (nI k) a pl z1), (aB g y0 500 tp)] H := hP
  have hD : va_D A [(oX7 z0 y0 (nI n) (nI k) a pl z1), (aB g y0 500 tp)] := hD
  refine lv_aload_n hx hb dX7_fail_5 rfl (lv_at hl 0 rfl) ?_
  refine lv_iload_n hx hb dX7_fail_6 rfl (lv_at hl 2 rfl) ?_
  refine va_put (v := .int b) (ty := .int) (T := TX7) (N := 6) hx hb hts inX7 tyX7 tyX7_ok nmX7 hown hK hP hD hS 0 rfl rfl 4 (by decide) f15 (fun _ h9 => h9) rfl (by decide +kernel) rfl rfl (Nat.le_of_ble_eq_true rfl) dX7_fail_7 (fun H locs hP hD hS => ?_)
  have hP : va_P g.1 vwCl [(oX7 z0 y0 (nI n) (nI k) a b z1), (aB g y0 500 tp)] H := hP
  have hD : va_D A [(oX7 z0 y0 (nI n) (nI k) a b z1), (aB g y0 500 tp)] := hD
  refine lv_iconst (v := 0) hx hb dX7_fail_10 (by decide) ?_
  exact he_rz hQ hx hb hr hlk hP hD hS dX7_fail_11 (Nat.le_of_ble_eq_true rfl) (Nat.le_of_ble_eq_true rfl) rfl (()) (rfl) (rfl)
set_option maxHeartbeats 4000000 in
set_option maxRecDepth 100000 in
theorem g_X7_isSame6 (l : Launch) (g : he_G) (z0 : Nat) (z1 : Nat) (y0 : Nat) (n : Nat) (k : Nat) (fa : Int32) (pl : Int32) (tp : Nat → Int32) (f : Nat) (t : Nat) (b : Nat) (hk : k ≤ n) (hn : n ≤ 500) (hft : f ≤ t) (ht : t ≤ 41) (hb9 : b ≤ k) : he_I l yX7_isSame wsX7_isSame 4 85 0 0 g [.ref z0, .ref (g.2 10), .int (nI f), .int (nI t), .int (nI b)] [(oX7 z0 y0 (nI n) (nI k) fa pl z1), (aB g y0 500 tp)] (fun (r : Int32) (u : Unit) => r = 0 ∨ r = 1) (fun (u : Unit) => [(oX7 z0 y0 (nI n) (nI k) fa pl z1), (aB g y0 500 tp)]) := by
  refine he_begin (l := l) (g := g) (y := yX7_isSame) (wl := wsX7_isSame) (fr := 4) (lo := 85) (mc := 0) (ms := 0) (av := [.ref z0, .ref (g.2 10), .int (nI f), .int (nI t), .int (nI b)]) (ws := [(oX7 z0 y0 (nI n) (nI k) fa pl z1), (aB g y0 500 tp)]) (cc := cX7_isSame) (maxL := 6) (ret := (some .boolean)) (fun A => va_Qi (fun (r : Int32) (u : Unit) => r = 0 ∨ r = 1) (fun u t => he_post g A ((fun (u : Unit) => [(oX7 z0 y0 (nI n) (nI k) fa pl z1), (aB g y0 500 tp)]) u) t) A) (by decide) rfl (Nat.le_of_ble_eq_true rfl) ?_
  intro p e s m args below meth c A ls H locs Q hQ hB
  obtain ⟨hx, hb, hr, hml, hown, hts, hlk, hin, hP, hK, hD, hS, hA, hE, hl⟩ := hB
  have hl : lv_has ls 6 [(0, .ref z0), (1, .ref (g.2 10)), (2, .int (nI f)), (3, .int (nI t)), (4, .int (nI b))] := hl
  have f32 := hts (.fieldLink RX7 32 "HiredEnemy$Reader" "at" "I") (iwoX7_isSame (k := 0) rfl)
  have inX7 : ∀ w ∈ wsX70, w ∈ wsX7_isSame := innX7_isSame_X7
  have f9 := hts (.fieldLink RX7 9 "HiredEnemy$Reader" "bytes" "[B") (iwoX7_isSame (k := 1) rfl)
  refine lv_iload_n hx hb dX7_isSame_0 rfl (lv_at hl 3 rfl) ?_
  refine lv_iload_n hx hb dX7_isSame_1 rfl (lv_at hl 2 rfl) ?_
  refine lv_isub hx hb dX7_isSame_2 ?_
  refine he_top (nI (t - f)) (pk_sub (by omega)) ?_
  refine lv_aload_n hx hb dX7_isSame_3 rfl (lv_at hl 0 rfl) ?_
  refine va_get (v := .int (nI k)) (T := TX7) (N := 6) hx hb hts inX7 hown hK hP 0 rfl rfl 2 (by decide) f32 (fun _ h9 => h9) rfl dX7_isSame_4 ?_
  refine lv_iload hx hb dX7_isSame_7 (lv_at hl 4 rfl) ?_
  refine lv_isub hx hb dX7_isSame_9 ?_
  refine he_top (nI (k - b)) (pk_sub (by omega)) ?_
  refine lv_icmp_eq (tgt := 15) hx hb dX7_isSame_10 (by decide) (fun c_1 => ?_) (fun c_1 => ?_)
  · have k_2 : t - f = k - b := (he_ceq (a := t - f) (b := k - b) rfl rfl (by omega) (by omega)).mp c_1
    refine lv_iconst (v := 0) hx hb dX7_isSame_15 (by decide) ?_
    refine lv_istore (lv' := [(5, .int 0), (0, .ref z0), (1, .ref (g.2 10)), (2, .int (nI f)), (3, .int (nI t)), (4, .int (nI b))]) hx hb dX7_isSame_16 hl (by decide) rfl (fun ls hl => ?_)
    have loop18 : ∀ (n9 : Nat) (i : Nat), t - f - i < n9 → (i ≤ t - f) → ∀ (H : Heap) (locs : List Loc) (ls : Array Slot), va_P g.1 vwCl [(oX7 z0 y0 (nI n) (nI k) fa pl z1), (aB g y0 500 tp)] H → va_D A [(oX7 z0 y0 (nI n) (nI k) fa pl z1), (aB g y0 500 tp)] → va_S A s.heap H locs → lv_has ls 6 [(0, .ref z0), (1, .ref (g.2 10)), (2, .int (nI f)), (3, .int (nI t)), (4, .int (nI b)), (5, .int (nI i))] → W p l e (he_room 4 85 0 0) s m args below meth c H locs 0 0 Q (F0 m 18 ls []) := by
      intro n9
      induction n9 with
      | zero => intro i hm9; exact absurd hm9 (Nat.not_lt_zero _)
      | succ n9 ih18 =>
        intro i hm9 hi H locs ls hP hD hS hl
        refine lv_iload hx hb dX7_isSame_18 (lv_at hl 5 rfl) ?_
        refine lv_iload_n hx hb dX7_isSame_20 rfl (lv_at hl 3 rfl) ?_
        refine lv_iload_n hx hb dX7_isSame_21 rfl (lv_at hl 2 rfl) ?_
        refine lv_isub hx hb dX7_isSame_22 ?_
        refine he_top (nI (t - f)) (pk_sub (by omega)) ?_
        refine lv_icmp_ge (tgt := 55) hx hb dX7_isSame_23 (by decide) (fun c_3 => ?_) (fun c_3 => ?_)
        · have k_4 : t - f ≤ i := (he_cle (a := t - f) (b := i) rfl rfl (by omega) (by omega)).mp c_3
          refine lv_iconst (v := 1) hx hb dX7_isSame_55 (by decide) ?_
          exact he_rz hQ hx hb hr hlk hP hD hS dX7_isSame_56 (Nat.le_of_ble_eq_true rfl) (Nat.le_of_ble_eq_true rfl) rfl (()) (rfl) (Or.inr rfl)
        · have k_5 : ¬ (t - f ≤ i) := fun h9 => c_3 ((he_cle (a := t - f) (b := i) rfl rfl (by omega) (by omega)).mpr h9)
          refine lv_aload_n hx hb dX7_isSame_26 rfl (lv_at hl 1 rfl) ?_
          refine lv_iload_n hx hb dX7_isSame_27 rfl (lv_at hl 2 rfl) ?_
          refine lv_iload hx hb dX7_isSame_28 (lv_at hl 5 rfl) ?_
          refine lv_iadd hx hb dX7_isSame_30 ?_
          refine he_top (nI (f + i)) (nI_add f i) ?_
          refine he_ci (wc := []) (wr := [(oX7 z0 y0 (nI n) (nI k) fa pl z1), (aB g y0 500 tp)]) (va_runV (As := [.int (nI (f + i))]) (rest := []) ⟨hx, hb, hml, hown, hts⟩ (g_J0_charAt6 l g (f + i) (by first | assumption | decide | omega) H.size) (cwV 1 hts gX7_isSame_J0_charAt_5068e rfl rfl rfl (by decide +kernel) ⟨Nat.le_of_ble_eq_true rfl, Nat.le_of_ble_eq_true rfl⟩) (he_preO (wc := []) hK hP hD hS hA hE [] rfl rfl hE.words.2.1.2.1) rfl rfl hl.1 rfl (lv_room (Nat.le_of_ble_eq_true rfl)) dX7_isSame_31 ⟨(Nat.le_of_ble_eq_true rfl), (Nat.le_of_ble_eq_true rfl)⟩) hP hD hS hA [] [0, 1] rfl rfl rfl (by decide) (fun r_6 u_7 H locs h_8 hP hD hS => ?_)
          subst h_8
          have hP : va_P g.1 vwCl [(oX7 z0 y0 (nI n) (nI k) fa pl z1), (aB g y0 500 tp)] H := hP
          have hD : va_D A [(oX7 z0 y0 (nI n) (nI k) fa pl z1), (aB g y0 500 tp)] := hD
          refine lv_aload_n hx hb dX7_isSame_34 rfl (lv_at hl 0 rfl) ?_
          refine va_get (v := .ref y0) (T := TX7) (N := 6) hx hb hts inX7 hown hK hP 0 rfl rfl 0 (by decide) f9 (fun _ h9 => h9) rfl dX7_isSame_35 ?_
          refine lv_iload hx hb dX7_isSame_38 (lv_at hl 4 rfl) ?_
          refine lv_iload hx hb dX7_isSame_40 (lv_at hl 5 rfl) ?_
          refine lv_iadd hx hb dX7_isSame_42 ?_
          refine he_top (nI (b + i)) (nI_add b i) ?_
          refine he_bald hx hb hK hP 1 rfl (b + i) rfl (by first | assumption | decide | omega) (by first | decide | assumption) (tp (b + i)) rfl dX7_isSame_43 ?_
          refine lv_icmp_eq (tgt := 49) hx hb dX7_isSame_44 (by decide) (fun c_9 => ?_) (fun c_9 => ?_)
          · refine lv_iinc (v := nI (i + 1)) (lv' := [(5, .int (nI (i + 1))), (0, .ref z0), (1, .ref (g.2 10)), (2, .int (nI f)), (3, .int (nI t)), (4, .int (nI b))]) hx hb dX7_isSame_49 hl (k := 5) rfl (nI_1 i) (by decide) rfl (fun ls hl => ?_)
            refine lv_goto (tgt := 18) hx hb dX7_isSame_52 (by decide) ?_
            exact ih18 (i + 1) (by omega) (by omega) _ _ _ hP hD hS (lv_sub hl [1, 2, 3, 4, 5, 0] rfl)
          · refine lv_iconst (v := 0) hx hb dX7_isSame_47 (by decide) ?_
            exact he_rz hQ hx hb hr hlk hP hD hS dX7_isSame_48 (Nat.le_of_ble_eq_true rfl) (Nat.le_of_ble_eq_true rfl) rfl (()) (rfl) (Or.inl rfl)
    exact loop18 ((t - f - 0) + 1) 0 (Nat.lt_succ_self _) (Nat.zero_le _) _ _ _ hP hD hS (lv_sub hl [1, 2, 3, 4, 5, 0] rfl)
  · have k_10 : ¬ (t - f = k - b) := fun h9 => c_1 ((he_ceq (a := t - f) (b := k - b) rfl rfl (by omega) (by omega)).mpr h9)
    refine lv_iconst (v := 0) hx hb dX7_isSame_13 (by decide) ?_
    exact he_rz hQ hx hb hr hlk hP hD hS dX7_isSame_14 (Nat.le_of_ble_eq_true rfl) (Nat.le_of_ble_eq_true rfl) rfl (()) (rfl) (Or.inl rfl)
set_option maxHeartbeats 4000000 in
set_option maxRecDepth 100000 in
theorem g_X7_kindOf6 (l : Launch) (g : he_G) (z0 : Nat) (z1 : Nat) (y0 : Nat) (n : Nat) (k : Nat) (fa : Int32) (pl : Int32) (tp : Nat → Int32) (b : Nat) (hk : k ≤ n) (hn : n ≤ 500) (hb9 : b ≤ k) : he_I l yX7_kindOf wsX7_kindOf 5 110 0 0 g [.ref z0, .ref (g.2 10), .int (nI b)] [(oX7 z0 y0 (nI n) (nI k) fa pl z1), (aB g y0 500 tp)] (fun (r : Int32) (u : Unit) => True) (fun (u : Unit) => [(oX7 z0 y0 (nI n) (nI k) fa pl z1), (aB g y0 500 tp)]) := by
  refine he_begin (l := l) (g := g) (y := yX7_kindOf) (wl := wsX7_kindOf) (fr := 5) (lo := 110) (mc := 0) (ms := 0) (av := [.ref z0, .ref (g.2 10), .int (nI b)]) (ws := [(oX7 z0 y0 (nI n) (nI k) fa pl z1), (aB g y0 500 tp)]) (cc := cX7_kindOf) (maxL := 6) (ret := (some .int)) (fun A => va_Qi (fun (r : Int32) (u : Unit) => True) (fun u t => he_post g A ((fun (u : Unit) => [(oX7 z0 y0 (nI n) (nI k) fa pl z1), (aB g y0 500 tp)]) u) t) A) (by decide) rfl (Nat.le_of_ble_eq_true rfl) ?_
  intro p e s m args below meth c A ls H locs Q hQ hB
  obtain ⟨hx, hb, hr, hml, hown, hts, hlk, hin, hP, hK, hD, hS, hA, hE, hl⟩ := hB
  have hl : lv_has ls 6 [(0, .ref z0), (1, .ref (g.2 10)), (2, .int (nI b))] := hl
  refine lv_iconst (v := 0) hx hb dX7_kindOf_0 (by decide) ?_
  refine lv_istore_n (lv' := [(3, .int 0), (0, .ref z0), (1, .ref (g.2 10)), (2, .int (nI b))]) hx hb dX7_kindOf_1 rfl hl (by decide) rfl (fun ls hl => ?_)
  refine lv_iconst (v := 0) hx hb dX7_kindOf_2 (by decide) ?_
  refine lv_istore (lv' := [(4, .int 0), (3, .int 0), (0, .ref z0), (1, .ref (g.2 10)), (2, .int (nI b))]) hx hb dX7_kindOf_3 hl (by decide) rfl (fun ls hl => ?_)
  refine lv_iconst (v := 0) hx hb dX7_kindOf_5 (by decide) ?_
  refine lv_istore (lv' := [(5, .int 0), (4, .int 0), (3, .int 0), (0, .ref z0), (1, .ref (g.2 10)), (2, .int (nI b))]) hx hb dX7_kindOf_6 hl (by decide) rfl (fun ls hl => ?_)
  have loop8 : ∀ (n9 : Nat) (i : Nat) (f : Nat) (kd : Int32), 42 - i < n9 → (i ≤ 42) → (f ≤ i) → ∀ (H : Heap) (locs : List Loc) (ls : Array Slot), va_P g.1 vwCl [(oX7 z0 y0 (nI n) (nI k) fa pl z1), (aB g y0 500 tp)] H → va_D A [(oX7 z0 y0 (nI n) (nI k) fa pl z1), (aB g y0 500 tp)] → va_S A s.heap H locs → lv_has ls 6 [(0, .ref z0), (1, .ref (g.2 10)), (2, .int (nI b)), (3, .int kd), (4, .int (nI f)), (5, .int (nI i))] → W p l e (he_room 5 110 0 0) s m args below meth c H locs 0 0 Q (F0 m 8 ls []) := by
    intro n9
    induction n9 with
    | zero => intro i f kd hm9; exact absurd hm9 (Nat.not_lt_zero _)
    | succ n9 ih8 =>
      intro i f kd hm9 hi hf H locs ls hP hD hS hl
      refine lv_iload hx hb dX7_kindOf_8 (lv_at hl 5 rfl) ?_
      refine lv_aload_n hx hb dX7_kindOf_10 rfl (lv_at hl 1 rfl) ?_
      refine he_ci (wc := []) (wr := [(oX7 z0 y0 (nI n) (nI k) fa pl z1), (aB g y0 500 tp)]) (va_runV (As := []) (rest := [.int (nI i)]) ⟨hx, hb, hml, hown, hts⟩ (g_J0_length6 l g  H.size) (cwV 0 hts gX7_kindOf_J0_length_8abf5 rfl rfl rfl (by decide +kernel) ⟨Nat.le_of_ble_eq_true rfl, Nat.le_of_ble_eq_true rfl⟩) (he_preO (wc := []) hK hP hD hS hA hE [] rfl rfl hE.words.2.1.2.1) rfl rfl hl.1 rfl (lv_room (Nat.le_of_ble_eq_true rfl)) dX7_kindOf_11 ⟨(Nat.le_of_ble_eq_true rfl), (Nat.le_of_ble_eq_true rfl)⟩) hP hD hS hA [] [0, 1] rfl rfl rfl (by decide) (fun r_1 u_2 H locs h_3 hP hD hS => ?_)
      subst h_3
      have hP : va_P g.1 vwCl [(oX7 z0 y0 (nI n) (nI k) fa pl z1), (aB g y0 500 tp)] H := hP
      have hD : va_D A [(oX7 z0 y0 (nI n) (nI k) fa pl z1), (aB g y0 500 tp)] := hD
      refine lv_icmp_gt (tgt := 67) hx hb dX7_kindOf_14 (by decide) (fun c_4 => ?_) (fun c_4 => ?_)
      · have k_5 : 41 < i := (he_clt (a := 41) (b := i) (by decide) rfl (by omega) (by omega)).mp c_4
        refine lv_iconst (v := (-1)) hx hb dX7_kindOf_67 (by decide) ?_
        exact he_ri hQ hx hb hr hlk hP hD hS dX7_kindOf_68 (Nat.le_of_ble_eq_true rfl) (Nat.le_of_ble_eq_true rfl) (()) (rfl) (trivial)
      · have k_6 : ¬ (41 < i) := fun h9 => c_4 ((he_clt (a := 41) (b := i) (by decide) rfl (by omega) (by omega)).mpr h9)
        have join37 : ∀ (_ : Unit), ∀ (H : Heap) (locs : List Loc) (ls : Array Slot), va_P g.1 vwCl [(oX7 z0 y0 (nI n) (nI k) fa pl z1), (aB g y0 500 tp)] H → va_D A [(oX7 z0 y0 (nI n) (nI k) fa pl z1), (aB g y0 500 tp)] → va_S A s.heap H locs → lv_has ls 6 [(0, .ref z0), (1, .ref (g.2 10)), (2, .int (nI b)), (3, .int kd), (4, .int (nI f)), (5, .int (nI i))] → W p l e (he_room 5 110 0 0) s m args below meth c H locs 0 0 Q (F0 m 37 ls []) := by
          intro _ H locs ls hP hD hS hl
          refine lv_aload_n hx hb dX7_kindOf_37 rfl (lv_at hl 0 rfl) ?_
          refine lv_aload_n hx hb dX7_kindOf_38 rfl (lv_at hl 1 rfl) ?_
          refine lv_iload hx hb dX7_kindOf_39 (lv_at hl 4 rfl) ?_
          refine lv_iload hx hb dX7_kindOf_41 (lv_at hl 5 rfl) ?_
          refine lv_iload_n hx hb dX7_kindOf_43 rfl (lv_at hl 2 rfl) ?_
          refine he_ci (wc := [(oX7 z0 y0 (nI n) (nI k) fa pl z1), (aB g y0 500 tp)]) (wr := []) (va_runV (As := [.ref (g.2 10), .int (nI f), .int (nI i), .int (nI b)]) (rest := []) ⟨hx, hb, hml, hown, hts⟩ (g_X7_isSame6 l g z0 z1 y0 n k fa pl tp f i b (by first | assumption | decide | omega) (by first | assumption | decide | omega) (by first | assumption | decide | omega) (by first | assumption | decide | omega) (by first | assumption | decide | omega) H.size) (cwV 4 hts gX7_kindOf_X7_isSame rfl rfl rfl (by decide +kernel) ⟨Nat.le_of_ble_eq_true rfl, Nat.le_of_ble_eq_true rfl⟩) (he_preV (wc := [(oX7 z0 y0 (nI n) (nI k) fa pl z1), (aB g y0 500 tp)]) hK hP hD hS hA hE [0, 1] rfl rfl 0 rfl rfl) rfl rfl hl.1 rfl (lv_room (Nat.le_of_ble_eq_true rfl)) dX7_kindOf_44 ⟨(Nat.le_of_ble_eq_true rfl), (Nat.le_of_ble_eq_true rfl)⟩) hP hD hS hA [0, 1] [] rfl rfl rfl (by decide) (fun r_7 u_8 H locs h_9 hP hD hS => ?_)
          try dsimp only at h_9
          have hf_10 := h_9
          have hP : va_P g.1 vwCl [(oX7 z0 y0 (nI n) (nI k) fa pl z1), (aB g y0 500 tp)] H := hP
          have hD : va_D A [(oX7 z0 y0 (nI n) (nI k) fa pl z1), (aB g y0 500 tp)] := hD
          refine lv_if_eq (tgt := 52) hx hb dX7_kindOf_47 (by decide) (fun c_11 => ?_) (fun c_11 => ?_)
          · refine lv_iinc (v := kd + 1) (lv' := [(3, .int (kd + 1)), (0, .ref z0), (1, .ref (g.2 10)), (2, .int (nI b)), (4, .int (nI f)), (5, .int (nI i))]) hx hb dX7_kindOf_52 hl (k := 3) rfl rfl (by decide) rfl (fun ls hl => ?_)
            refine lv_iload hx hb dX7_kindOf_55 (lv_at hl 5 rfl) ?_
            refine lv_iconst (v := 1) hx hb dX7_kindOf_57 (by decide) ?_
            refine lv_iadd hx hb dX7_kindOf_58 ?_
            refine he_top (nI (i + 1)) (nI_add i 1) ?_
            refine lv_istore (lv' := [(4, .int (nI (i + 1))), (3, .int (kd + 1)), (0, .ref z0), (1, .ref (g.2 10)), (2, .int (nI b)), (5, .int (nI i))]) hx hb dX7_kindOf_59 hl (by decide) rfl (fun ls hl => ?_)
            refine lv_iinc (v := nI (i + 1)) (lv' := [(5, .int (nI (i + 1))), (4, .int (nI (i + 1))), (3, .int (kd + 1)), (0, .ref z0), (1, .ref (g.2 10)), (2, .int (nI b))]) hx hb dX7_kindOf_61 hl (k := 5) rfl (nI_1 i) (by decide) rfl (fun ls hl => ?_)
            refine lv_goto (tgt := 8) hx hb dX7_kindOf_64 (by decide) ?_
            exact ih8 (i + 1) (i + 1) (kd + 1) (by omega) (by omega) (by omega) _ _ _ hP hD hS (lv_sub hl [3, 4, 5, 2, 1, 0] rfl)
          · refine lv_iload_n hx hb dX7_kindOf_50 rfl (lv_at hl 3 rfl) ?_
            exact he_ri hQ hx hb hr hlk hP hD hS dX7_kindOf_51 (Nat.le_of_ble_eq_true rfl) (Nat.le_of_ble_eq_true rfl) (()) (rfl) (trivial)
        refine lv_iload hx hb dX7_kindOf_17 (lv_at hl 5 rfl) ?_
        refine lv_aload_n hx hb dX7_kindOf_19 rfl (lv_at hl 1 rfl) ?_
        refine he_ci (wc := []) (wr := [(oX7 z0 y0 (nI n) (nI k) fa pl z1), (aB g y0 500 tp)]) (va_runV (As := []) (rest := [.int (nI i)]) ⟨hx, hb, hml, hown, hts⟩ (g_J0_length6 l g  H.size) (cwV 0 hts gX7_kindOf_J0_length_8abf5 rfl rfl rfl (by decide +kernel) ⟨Nat.le_of_ble_eq_true rfl, Nat.le_of_ble_eq_true rfl⟩) (he_preO (wc := []) hK hP hD hS hA hE [] rfl rfl hE.words.2.1.2.1) rfl rfl hl.1 rfl (lv_room (Nat.le_of_ble_eq_true rfl)) dX7_kindOf_20 ⟨(Nat.le_of_ble_eq_true rfl), (Nat.le_of_ble_eq_true rfl)⟩) hP hD hS hA [] [0, 1] rfl rfl rfl (by decide) (fun r_12 u_13 H locs h_14 hP hD hS => ?_)
        subst h_14
        have hP : va_P g.1 vwCl [(oX7 z0 y0 (nI n) (nI k) fa pl z1), (aB g y0 500 tp)] H := hP
        have hD : va_D A [(oX7 z0 y0 (nI n) (nI k) fa pl z1), (aB g y0 500 tp)] := hD
        refine lv_icmp_eq (tgt := 37) hx hb dX7_kindOf_23 (by decide) (fun c_15 => ?_) (fun c_15 => ?_)
        · have k_16 : i = 41 := (he_ceq (a := i) (b := 41) rfl (by decide) (by omega) (by omega)).mp c_15
          exact join37 ()  _ _ _ hP hD hS (lv_sub hl [0, 1, 2, 3, 4, 5] rfl)
        · have k_17 : ¬ (i = 41) := fun h9 => c_15 ((he_ceq (a := i) (b := 41) rfl (by decide) (by omega) (by omega)).mpr h9)
          refine lv_aload_n hx hb dX7_kindOf_26 rfl (lv_at hl 1 rfl) ?_
          refine lv_iload hx hb dX7_kindOf_27 (lv_at hl 5 rfl) ?_
          refine he_ci (wc := []) (wr := [(oX7 z0 y0 (nI n) (nI k) fa pl z1), (aB g y0 500 tp)]) (va_runV (As := [.int (nI i)]) (rest := []) ⟨hx, hb, hml, hown, hts⟩ (g_J0_charAt6 l g i (by first | assumption | decide | omega) H.size) (cwV 1 hts gX7_kindOf_J0_charAt_5068e rfl rfl rfl (by decide +kernel) ⟨Nat.le_of_ble_eq_true rfl, Nat.le_of_ble_eq_true rfl⟩) (he_preO (wc := []) hK hP hD hS hA hE [] rfl rfl hE.words.2.1.2.1) rfl rfl hl.1 rfl (lv_room (Nat.le_of_ble_eq_true rfl)) dX7_kindOf_29 ⟨(Nat.le_of_ble_eq_true rfl), (Nat.le_of_ble_eq_true rfl)⟩) hP hD hS hA [] [0, 1] rfl rfl rfl (by decide) (fun r_18 u_19 H locs h_20 hP hD hS => ?_)
          subst h_20
          have hP : va_P g.1 vwCl [(oX7 z0 y0 (nI n) (nI k) fa pl z1), (aB g y0 500 tp)] H := hP
          have hD : va_D A [(oX7 z0 y0 (nI n) (nI k) fa pl z1), (aB g y0 500 tp)] := hD
          refine lv_bipush (v := 32) hx hb dX7_kindOf_32 (by decide) ?_
          refine lv_icmp_ne (tgt := 61) hx hb dX7_kindOf_34 (by decide) (fun c_21 => ?_) (fun c_21 => ?_)
          · refine lv_iinc (v := nI (i + 1)) (lv' := [(5, .int (nI (i + 1))), (0, .ref z0), (1, .ref (g.2 10)), (2, .int (nI b)), (3, .int kd), (4, .int (nI f))]) hx hb dX7_kindOf_61 hl (k := 5) rfl (nI_1 i) (by decide) rfl (fun ls hl => ?_)
            refine lv_goto (tgt := 8) hx hb dX7_kindOf_64 (by decide) ?_
            exact ih8 (i + 1) f kd (by omega) (by omega) (by omega) _ _ _ hP hD hS (lv_sub hl [1, 2, 3, 4, 5, 0] rfl)
          · exact join37 ()  _ _ _ hP hD hS (lv_sub hl [0, 1, 2, 3, 4, 5] rfl)
  exact loop8 ((42 - 0) + 1) 0 0 0 (Nat.lt_succ_self _) (Nat.zero_le _) (Nat.le_refl _) _ _ _ hP hD hS (lv_sub hl [3, 4, 5, 2, 1, 0] rfl)
set_option maxHeartbeats 4000000 in
set_option maxRecDepth 100000 in
theorem g_X7_isSame5 (l : Launch) (g : he_G) (z0 : Nat) (z1 : Nat) (y0 : Nat) (n : Nat) (k : Nat) (fa : Int32) (pl : Int32) (tp : Nat → Int32) (f : Nat) (t : Nat) (b : Nat) (hk : k ≤ n) (hn : n ≤ 500) (hft : f ≤ t) (ht : t ≤ 39) (hb9 : b ≤ k) : he_I l yX7_isSame wsX7_isSame 4 85 0 0 g [.ref z0, .ref (g.2 11), .int (nI f), .int (nI t), .int (nI b)] [(oX7 z0 y0 (nI n) (nI k) fa pl z1), (aB g y0 500 tp)] (fun (r : Int32) (u : Unit) => r = 0 ∨ r = 1) (fun (u : Unit) => [(oX7 z0 y0 (nI n) (nI k) fa pl z1), (aB g y0 500 tp)]) := by
  refine he_begin (l := l) (g := g) (y := yX7_isSame) (wl := wsX7_isSame) (fr := 4) (lo := 85) (mc := 0) (ms := 0) (av := [.ref z0, .ref (g.2 11), .int (nI f), .int (nI t), .int (nI b)]) (ws := [(oX7 z0 y0 (nI n) (nI k) fa pl z1), (aB g y0 500 tp)]) (cc := cX7_isSame) (maxL := 6) (ret := (some .boolean)) (fun A => va_Qi (fun (r : Int32) (u : Unit) => r = 0 ∨ r = 1) (fun u t => he_post g A ((fun (u : Unit) => [(oX7 z0 y0 (nI n) (nI k) fa pl z1), (aB g y0 500 tp)]) u) t) A) (by decide) rfl (Nat.le_of_ble_eq_true rfl) ?_
  intro p e s m args below meth c A ls H locs Q hQ hB
  obtain ⟨hx, hb, hr, hml, hown, hts, hlk, hin, hP, hK, hD, hS, hA, hE, hl⟩ := hB
  have hl : lv_has ls 6 [(0, .ref z0), (1, .ref (g.2 11)), (2, .int (nI f)), (3, .int (nI t)), (4, .int (nI b))] := hl
  have f32 := hts (.fieldLink RX7 32 "HiredEnemy$Reader" "at" "I") (iwoX7_isSame (k := 0) rfl)
  have inX7 : ∀ w ∈ wsX70, w ∈ wsX7_isSame := innX7_isSame_X7
  have f9 := hts (.fieldLink RX7 9 "HiredEnemy$Reader" "bytes" "[B") (iwoX7_isSame (k := 1) rfl)
  refine lv_iload_n hx hb dX7_isSame_0 rfl (lv_at hl 3 rfl) ?_
  refine lv_iload_n hx hb dX7_isSame_1 rfl (lv_at hl 2 rfl) ?_
  refine lv_isub hx hb dX7_isSame_2 ?_
  refine he_top (nI (t - f)) (pk_sub (by omega)) ?_
  refine lv_aload_n hx hb dX7_isSame_3 rfl (lv_at hl 0 rfl) ?_
  refine va_get (v := .int (nI k)) (T := TX7) (N := 6) hx hb hts inX7 hown hK hP 0 rfl rfl 2 (by decide) f32 (fun _ h9 => h9) rfl dX7_isSame_4 ?_
  refine lv_iload hx hb dX7_isSame_7 (lv_at hl 4 rfl) ?_
  refine lv_isub hx hb dX7_isSame_9 ?_
  refine he_top (nI (k - b)) (pk_sub (by omega)) ?_
  refine lv_icmp_eq (tgt := 15) hx hb dX7_isSame_10 (by decide) (fun c_1 => ?_) (fun c_1 => ?_)
  · have k_2 : t - f = k - b := (he_ceq (a := t - f) (b := k - b) rfl rfl (by omega) (by omega)).mp c_1
    refine lv_iconst (v := 0) hx hb dX7_isSame_15 (by decide) ?_
    refine lv_istore (lv' := [(5, .int 0), (0, .ref z0), (1, .ref (g.2 11)), (2, .int (nI f)), (3, .int (nI t)), (4, .int (nI b))]) hx hb dX7_isSame_16 hl (by decide) rfl (fun ls hl => ?_)
    have loop18 : ∀ (n9 : Nat) (i : Nat), t - f - i < n9 → (i ≤ t - f) → ∀ (H : Heap) (locs : List Loc) (ls : Array Slot), va_P g.1 vwCl [(oX7 z0 y0 (nI n) (nI k) fa pl z1), (aB g y0 500 tp)] H → va_D A [(oX7 z0 y0 (nI n) (nI k) fa pl z1), (aB g y0 500 tp)] → va_S A s.heap H locs → lv_has ls 6 [(0, .ref z0), (1, .ref (g.2 11)), (2, .int (nI f)), (3, .int (nI t)), (4, .int (nI b)), (5, .int (nI i))] → W p l e (he_room 4 85 0 0) s m args below meth c H locs 0 0 Q (F0 m 18 ls []) := by
      intro n9
      induction n9 with
      | zero => intro i hm9; exact absurd hm9 (Nat.not_lt_zero _)
      | succ n9 ih18 =>
        intro i hm9 hi H locs ls hP hD hS hl
        refine lv_iload hx hb dX7_isSame_18 (lv_at hl 5 rfl) ?_
        refine lv_iload_n hx hb dX7_isSame_20 rfl (lv_at hl 3 rfl) ?_
        refine lv_iload_n hx hb dX7_isSame_21 rfl (lv_at hl 2 rfl) ?_
        refine lv_isub hx hb dX7_isSame_22 ?_
        refine he_top (nI (t - f)) (pk_sub (by omega)) ?_
        refine lv_icmp_ge (tgt := 55) hx hb dX7_isSame_23 (by decide) (fun c_3 => ?_) (fun c_3 => ?_)
        · have k_4 : t - f ≤ i := (he_cle (a := t - f) (b := i) rfl rfl (by omega) (by omega)).mp c_3
          refine lv_iconst (v := 1) hx hb dX7_isSame_55 (by decide) ?_
          exact he_rz hQ hx hb hr hlk hP hD hS dX7_isSame_56 (Nat.le_of_ble_eq_true rfl) (Nat.le_of_ble_eq_true rfl) rfl (()) (rfl) (Or.inr rfl)
        · have k_5 : ¬ (t - f ≤ i) := fun h9 => c_3 ((he_cle (a := t - f) (b := i) rfl rfl (by omega) (by omega)).mpr h9)
          refine lv_aload_n hx hb dX7_isSame_26 rfl (lv_at hl 1 rfl) ?_
          refine lv_iload_n hx hb dX7_isSame_27 rfl (lv_at hl 2 rfl) ?_
          refine lv_iload hx hb dX7_isSame_28 (lv_at hl 5 rfl) ?_
          refine lv_iadd hx hb dX7_isSame_30 ?_
          refine he_top (nI (f + i)) (nI_add f i) ?_
          refine he_ci (wc := []) (wr := [(oX7 z0 y0 (nI n) (nI k) fa pl z1), (aB g y0 500 tp)]) (va_runV (As := [.int (nI (f + i))]) (rest := []) ⟨hx, hb, hml, hown, hts⟩ (g_J0_charAt5 l g (f + i) (by first | assumption | decide | omega) H.size) (cwV 1 hts gX7_isSame_J0_charAt_5068e rfl rfl rfl (by decide +kernel) ⟨Nat.le_of_ble_eq_true rfl, Nat.le_of_ble_eq_true rfl⟩) (he_preO (wc := []) hK hP hD hS hA hE [] rfl rfl hE.words.2.2.2.1) rfl rfl hl.1 rfl (lv_room (Nat.le_of_ble_eq_true rfl)) dX7_isSame_31 ⟨(Nat.le_of_ble_eq_true rfl), (Nat.le_of_ble_eq_true rfl)⟩) hP hD hS hA [] [0, 1] rfl rfl rfl (by decide) (fun r_6 u_7 H locs h_8 hP hD hS => ?_)
          subst h_8
          have hP : va_P g.1 vwCl [(oX7 z0 y0 (nI n) (nI k) fa pl z1), (aB g y0 500 tp)] H := hP
          have hD : va_D A [(oX7 z0 y0 (nI n) (nI k) fa pl z1), (aB g y0 500 tp)] := hD
          refine lv_aload_n hx hb dX7_isSame_34 rfl (lv_at hl 0 rfl) ?_
          refine va_get (v := .ref y0) (T := TX7) (N := 6) hx hb hts inX7 hown hK hP 0 rfl rfl 0 (by decide) f9 (fun _ h9 => h9) rfl dX7_isSame_35 ?_
          refine lv_iload hx hb dX7_isSame_38 (lv_at hl 4 rfl) ?_
          refine lv_iload hx hb dX7_isSame_40 (lv_at hl 5 rfl) ?_
          refine lv_iadd hx hb dX7_isSame_42 ?_
          refine he_top (nI (b + i)) (nI_add b i) ?_
          refine he_bald hx hb hK hP 1 rfl (b + i) rfl (by first | assumption | decide | omega) (by first | decide | assumption) (tp (b + i)) rfl dX7_isSame_43 ?_
          refine lv_icmp_eq (tgt := 49) hx hb dX7_isSame_44 (by decide) (fun c_9 => ?_) (fun c_9 => ?_)
          · refine lv_iinc (v := nI (i + 1)) (lv' := [(5, .int (nI (i + 1))), (0, .ref z0), (1, .ref (g.2 11)), (2, .int (nI f)), (3, .int (nI t)), (4, .int (nI b))]) hx hb dX7_isSame_49 hl (k := 5) rfl (nI_1 i) (by decide) rfl (fun ls hl => ?_)
            refine lv_goto (tgt := 18) hx hb dX7_isSame_52 (by decide) ?_
            exact ih18 (i + 1) (by omega) (by omega) _ _ _ hP hD hS (lv_sub hl [1, 2, 3, 4, 5, 0] rfl)
          · refine lv_iconst (v := 0) hx hb dX7_isSame_47 (by decide) ?_
            exact he_rz hQ hx hb hr hlk hP hD hS dX7_isSame_48 (Nat.le_of_ble_eq_true rfl) (Nat.le_of_ble_eq_true rfl) rfl (()) (rfl) (Or.inl rfl)
    exact loop18 ((t - f - 0) + 1) 0 (Nat.lt_succ_self _) (Nat.zero_le _) _ _ _ hP hD hS (lv_sub hl [1, 2, 3, 4, 5, 0] rfl)
  · have k_10 : ¬ (t - f = k - b) := fun h9 => c_1 ((he_ceq (a := t - f) (b := k - b) rfl rfl (by omega) (by omega)).mpr h9)
    refine lv_iconst (v := 0) hx hb dX7_isSame_13 (by decide) ?_
    exact he_rz hQ hx hb hr hlk hP hD hS dX7_isSame_14 (Nat.le_of_ble_eq_true rfl) (Nat.le_of_ble_eq_true rfl) rfl (()) (rfl) (Or.inl rfl)
set_option maxHeartbeats 4000000 in
set_option maxRecDepth 100000 in
theorem g_X7_kindOf5 (l : Launch) (g : he_G) (z0 : Nat) (z1 : Nat) (y0 : Nat) (n : Nat) (k : Nat) (fa : Int32) (pl : Int32) (tp : Nat → Int32) (b : Nat) (hk : k ≤ n) (hn : n ≤ 500) (hb9 : b ≤ k) : he_I l yX7_kindOf wsX7_kindOf 5 110 0 0 g [.ref z0, .ref (g.2 11), .int (nI b)] [(oX7 z0 y0 (nI n) (nI k) fa pl z1), (aB g y0 500 tp)] (fun (r : Int32) (u : Unit) => True) (fun (u : Unit) => [(oX7 z0 y0 (nI n) (nI k) fa pl z1), (aB g y0 500 tp)]) := by
  refine he_begin (l := l) (g := g) (y := yX7_kindOf) (wl := wsX7_kindOf) (fr := 5) (lo := 110) (mc := 0) (ms := 0) (av := [.ref z0, .ref (g.2 11), .int (nI b)]) (ws := [(oX7 z0 y0 (nI n) (nI k) fa pl z1), (aB g y0 500 tp)]) (cc := cX7_kindOf) (maxL := 6) (ret := (some .int)) (fun A => va_Qi (fun (r : Int32) (u : Unit) => True) (fun u t => he_post g A ((fun (u : Unit) => [(oX7 z0 y0 (nI n) (nI k) fa pl z1), (aB g y0 500 tp)]) u) t) A) (by decide) rfl (Nat.le_of_ble_eq_true rfl) ?_
  intro p e s m args below meth c A ls H locs Q hQ hB
  obtain ⟨hx, hb, hr, hml, hown, hts, hlk, hin, hP, hK, hD, hS, hA, hE, hl⟩ := hB
  have hl : lv_has ls 6 [(0, .ref z0), (1, .ref (g.2 11)), (2, .int (nI b))] := hl
  refine lv_iconst (v := 0) hx hb dX7_kindOf_0 (by decide) ?_
  refine lv_istore_n (lv' := [(3, .int 0), (0, .ref z0), (1, .ref (g.2 11)), (2, .int (nI b))]) hx hb dX7_kindOf_1 rfl hl (by decide) rfl (fun ls hl => ?_)
  refine lv_iconst (v := 0) hx hb dX7_kindOf_2 (by decide) ?_
  refine lv_istore (lv' := [(4, .int 0), (3, .int 0), (0, .ref z0), (1, .ref (g.2 11)), (2, .int (nI b))]) hx hb dX7_kindOf_3 hl (by decide) rfl (fun ls hl => ?_)
  refine lv_iconst (v := 0) hx hb dX7_kindOf_5 (by decide) ?_
  refine lv_istore (lv' := [(5, .int 0), (4, .int 0), (3, .int 0), (0, .ref z0), (1, .ref (g.2 11)), (2, .int (nI b))]) hx hb dX7_kindOf_6 hl (by decide) rfl (fun ls hl => ?_)
  have loop8 : ∀ (n9 : Nat) (i : Nat) (f : Nat) (kd : Int32), 40 - i < n9 → (i ≤ 40) → (f ≤ i) → ∀ (H : Heap) (locs : List Loc) (ls : Array Slot), va_P g.1 vwCl [(oX7 z0 y0 (nI n) (nI k) fa pl z1), (aB g y0 500 tp)] H → va_D A [(oX7 z0 y0 (nI n) (nI k) fa pl z1), (aB g y0 500 tp)] → va_S A s.heap H locs → lv_has ls 6 [(0, .ref z0), (1, .ref (g.2 11)), (2, .int (nI b)), (3, .int kd), (4, .int (nI f)), (5, .int (nI i))] → W p l e (he_room 5 110 0 0) s m args below meth c H locs 0 0 Q (F0 m 8 ls []) := by
    intro n9
    induction n9 with
    | zero => intro i f kd hm9; exact absurd hm9 (Nat.not_lt_zero _)
    | succ n9 ih8 =>
      intro i f kd hm9 hi hf H locs ls hP hD hS hl
      refine lv_iload hx hb dX7_kindOf_8 (lv_at hl 5 rfl) ?_
      refine lv_aload_n hx hb dX7_kindOf_10 rfl (lv_at hl 1 rfl) ?_
      refine he_ci (wc := []) (wr := [(oX7 z0 y0 (nI n) (nI k) fa pl z1), (aB g y0 500 tp)]) (va_runV (As := []) (rest := [.int (nI i)]) ⟨hx, hb, hml, hown, hts⟩ (g_J0_length5 l g  H.size) (cwV 0 hts gX7_kindOf_J0_length_8abf5 rfl rfl rfl (by decide +kernel) ⟨Nat.le_of_ble_eq_true rfl, Nat.le_of_ble_eq_true rfl⟩) (he_preO (wc := []) hK hP hD hS hA hE [] rfl rfl hE.words.2.2.2.1) rfl rfl hl.1 rfl (lv_room (Nat.le_of_ble_eq_true rfl)) dX7_kindOf_11 ⟨(Nat.le_of_ble_eq_true rfl), (Nat.le_of_ble_eq_true rfl)⟩) hP hD hS hA [] [0, 1] rfl rfl rfl (by decide) (fun r_1 u_2 H locs h_3 hP hD hS => ?_)
      subst h_3
      have hP : va_P g.1 vwCl [(oX7 z0 y0 (nI n) (nI k) fa pl z1), (aB g y0 500 tp)] H := hP
      have hD : va_D A [(oX7 z0 y0 (nI n) (nI k) fa pl z1), (aB g y0 500 tp)] := hD
      refine lv_icmp_gt (tgt := 67) hx hb dX7_kindOf_14 (by decide) (fun c_4 => ?_) (fun c_4 => ?_)
      · have k_5 : 39 < i := (he_clt (a := 39) (b := i) (by decide) rfl (by omega) (by omega)).mp c_4
        refine lv_iconst (v := (-1)) hx hb dX7_kindOf_67 (by decide) ?_
        exact he_ri hQ hx hb hr hlk hP hD hS dX7_kindOf_68 (Nat.le_of_ble_eq_true rfl) (Nat.le_of_ble_eq_true rfl) (()) (rfl) (trivial)
      · have k_6 : ¬ (39 < i) := fun h9 => c_4 ((he_clt (a := 39) (b := i) (by decide) rfl (by omega) (by omega)).mpr h9)
        have join37 : ∀ (_ : Unit), ∀ (H : Heap) (locs : List Loc) (ls : Array Slot), va_P g.1 vwCl [(oX7 z0 y0 (nI n) (nI k) fa pl z1), (aB g y0 500 tp)] H → va_D A [(oX7 z0 y0 (nI n) (nI k) fa pl z1), (aB g y0 500 tp)] → va_S A s.heap H locs → lv_has ls 6 [(0, .ref z0), (1, .ref (g.2 11)), (2, .int (nI b)), (3, .int kd), (4, .int (nI f)), (5, .int (nI i))] → W p l e (he_room 5 110 0 0) s m args below meth c H locs 0 0 Q (F0 m 37 ls []) := by
          intro _ H locs ls hP hD hS hl
          refine lv_aload_n hx hb dX7_kindOf_37 rfl (lv_at hl 0 rfl) ?_
          refine lv_aload_n hx hb dX7_kindOf_38 rfl (lv_at hl 1 rfl) ?_
          refine lv_iload hx hb dX7_kindOf_39 (lv_at hl 4 rfl) ?_
          refine lv_iload hx hb dX7_kindOf_41 (lv_at hl 5 rfl) ?_
          refine lv_iload_n hx hb dX7_kindOf_43 rfl (lv_at hl 2 rfl) ?_
          refine he_ci (wc := [(oX7 z0 y0 (nI n) (nI k) fa pl z1), (aB g y0 500 tp)]) (wr := []) (va_runV (As := [.ref (g.2 11), .int (nI f), .int (nI i), .int (nI b)]) (rest := []) ⟨hx, hb, hml, hown, hts⟩ (g_X7_isSame5 l g z0 z1 y0 n k fa pl tp f i b (by first | assumption | decide | omega) (by first | assumption | decide | omega) (by first | assumption | decide | omega) (by first | assumption | decide | omega) (by first | assumption | decide | omega) H.size) (cwV 4 hts gX7_kindOf_X7_isSame rfl rfl rfl (by decide +kernel) ⟨Nat.le_of_ble_eq_true rfl, Nat.le_of_ble_eq_true rfl⟩) (he_preV (wc := [(oX7 z0 y0 (nI n) (nI k) fa pl z1), (aB g y0 500 tp)]) hK hP hD hS hA hE [0, 1] rfl rfl 0 rfl rfl) rfl rfl hl.1 rfl (lv_room (Nat.le_of_ble_eq_true rfl)) dX7_kindOf_44 ⟨(Nat.le_of_ble_eq_true rfl), (Nat.le_of_ble_eq_true rfl)⟩) hP hD hS hA [0, 1] [] rfl rfl rfl (by decide) (fun r_7 u_8 H locs h_9 hP hD hS => ?_)
          try dsimp only at h_9
          have hf_10 := h_9
          have hP : va_P g.1 vwCl [(oX7 z0 y0 (nI n) (nI k) fa pl z1), (aB g y0 500 tp)] H := hP
          have hD : va_D A [(oX7 z0 y0 (nI n) (nI k) fa pl z1), (aB g y0 500 tp)] := hD
          refine lv_if_eq (tgt := 52) hx hb dX7_kindOf_47 (by decide) (fun c_11 => ?_) (fun c_11 => ?_)
          · refine lv_iinc (v := kd + 1) (lv' := [(3, .int (kd + 1)), (0, .ref z0), (1, .ref (g.2 11)), (2, .int (nI b)), (4, .int (nI f)), (5, .int (nI i))]) hx hb dX7_kindOf_52 hl (k := 3) rfl rfl (by decide) rfl (fun ls hl => ?_)
            refine lv_iload hx hb dX7_kindOf_55 (lv_at hl 5 rfl) ?_
            refine lv_iconst (v := 1) hx hb dX7_kindOf_57 (by decide) ?_
            refine lv_iadd hx hb dX7_kindOf_58 ?_
            refine he_top (nI (i + 1)) (nI_add i 1) ?_
            refine lv_istore (lv' := [(4, .int (nI (i + 1))), (3, .int (kd + 1)), (0, .ref z0), (1, .ref (g.2 11)), (2, .int (nI b)), (5, .int (nI i))]) hx hb dX7_kindOf_59 hl (by decide) rfl (fun ls hl => ?_)
            refine lv_iinc (v := nI (i + 1)) (lv' := [(5, .int (nI (i + 1))), (4, .int (nI (i + 1))), (3, .int (kd + 1)), (0, .ref z0), (1, .ref (g.2 11)), (2, .int (nI b))]) hx hb dX7_kindOf_61 hl (k := 5) rfl (nI_1 i) (by decide) rfl (fun ls hl => ?_)
            refine lv_goto (tgt := 8) hx hb dX7_kindOf_64 (by decide) ?_
            exact ih8 (i + 1) (i + 1) (kd + 1) (by omega) (by omega) (by omega) _ _ _ hP hD hS (lv_sub hl [3, 4, 5, 2, 1, 0] rfl)
          · refine lv_iload_n hx hb dX7_kindOf_50 rfl (lv_at hl 3 rfl) ?_
            exact he_ri hQ hx hb hr hlk hP hD hS dX7_kindOf_51 (Nat.le_of_ble_eq_true rfl) (Nat.le_of_ble_eq_true rfl) (()) (rfl) (trivial)
        refine lv_iload hx hb dX7_kindOf_17 (lv_at hl 5 rfl) ?_
        refine lv_aload_n hx hb dX7_kindOf_19 rfl (lv_at hl 1 rfl) ?_
        refine he_ci (wc := []) (wr := [(oX7 z0 y0 (nI n) (nI k) fa pl z1), (aB g y0 500 tp)]) (va_runV (As := []) (rest := [.int (nI i)]) ⟨hx, hb, hml, hown, hts⟩ (g_J0_length5 l g  H.size) (cwV 0 hts gX7_kindOf_J0_length_8abf5 rfl rfl rfl (by decide +kernel) ⟨Nat.le_of_ble_eq_true rfl, Nat.le_of_ble_eq_true rfl⟩) (he_preO (wc := []) hK hP hD hS hA hE [] rfl rfl hE.words.2.2.2.1) rfl rfl hl.1 rfl (lv_room (Nat.le_of_ble_eq_true rfl)) dX7_kindOf_20 ⟨(Nat.le_of_ble_eq_true rfl), (Nat.le_of_ble_eq_true rfl)⟩) hP hD hS hA [] [0, 1] rfl rfl rfl (by decide) (fun r_12 u_13 H locs h_14 hP hD hS => ?_)
        subst h_14
        have hP : va_P g.1 vwCl [(oX7 z0 y0 (nI n) (nI k) fa pl z1), (aB g y0 500 tp)] H := hP
        have hD : va_D A [(oX7 z0 y0 (nI n) (nI k) fa pl z1), (aB g y0 500 tp)] := hD
        refine lv_icmp_eq (tgt := 37) hx hb dX7_kindOf_23 (by decide) (fun c_15 => ?_) (fun c_15 => ?_)
        · have k_16 : i = 39 := (he_ceq (a := i) (b := 39) rfl (by decide) (by omega) (by omega)).mp c_15
          exact join37 ()  _ _ _ hP hD hS (lv_sub hl [0, 1, 2, 3, 4, 5] rfl)
        · have k_17 : ¬ (i = 39) := fun h9 => c_15 ((he_ceq (a := i) (b := 39) rfl (by decide) (by omega) (by omega)).mpr h9)
          refine lv_aload_n hx hb dX7_kindOf_26 rfl (lv_at hl 1 rfl) ?_
          refine lv_iload hx hb dX7_kindOf_27 (lv_at hl 5 rfl) ?_
          refine he_ci (wc := []) (wr := [(oX7 z0 y0 (nI n) (nI k) fa pl z1), (aB g y0 500 tp)]) (va_runV (As := [.int (nI i)]) (rest := []) ⟨hx, hb, hml, hown, hts⟩ (g_J0_charAt5 l g i (by first | assumption | decide | omega) H.size) (cwV 1 hts gX7_kindOf_J0_charAt_5068e rfl rfl rfl (by decide +kernel) ⟨Nat.le_of_ble_eq_true rfl, Nat.le_of_ble_eq_true rfl⟩) (he_preO (wc := []) hK hP hD hS hA hE [] rfl rfl hE.words.2.2.2.1) rfl rfl hl.1 rfl (lv_room (Nat.le_of_ble_eq_true rfl)) dX7_kindOf_29 ⟨(Nat.le_of_ble_eq_true rfl), (Nat.le_of_ble_eq_true rfl)⟩) hP hD hS hA [] [0, 1] rfl rfl rfl (by decide) (fun r_18 u_19 H locs h_20 hP hD hS => ?_)
          subst h_20
          have hP : va_P g.1 vwCl [(oX7 z0 y0 (nI n) (nI k) fa pl z1), (aB g y0 500 tp)] H := hP
          have hD : va_D A [(oX7 z0 y0 (nI n) (nI k) fa pl z1), (aB g y0 500 tp)] := hD
          refine lv_bipush (v := 32) hx hb dX7_kindOf_32 (by decide) ?_
          refine lv_icmp_ne (tgt := 61) hx hb dX7_kindOf_34 (by decide) (fun c_21 => ?_) (fun c_21 => ?_)
          · refine lv_iinc (v := nI (i + 1)) (lv' := [(5, .int (nI (i + 1))), (0, .ref z0), (1, .ref (g.2 11)), (2, .int (nI b)), (3, .int kd), (4, .int (nI f))]) hx hb dX7_kindOf_61 hl (k := 5) rfl (nI_1 i) (by decide) rfl (fun ls hl => ?_)
            refine lv_goto (tgt := 8) hx hb dX7_kindOf_64 (by decide) ?_
            exact ih8 (i + 1) f kd (by omega) (by omega) (by omega) _ _ _ hP hD hS (lv_sub hl [1, 2, 3, 4, 5, 0] rfl)
          · exact join37 ()  _ _ _ hP hD hS (lv_sub hl [0, 1, 2, 3, 4, 5] rfl)
  exact loop8 ((40 - 0) + 1) 0 0 0 (Nat.lt_succ_self _) (Nat.zero_le _) (Nat.le_refl _) _ _ _ hP hD hS (lv_sub hl [3, 4, 5, 2, 1, 0] rfl)
set_option maxHeartbeats 4000000 in
set_option maxRecDepth 100000 in
theorem g_X7_readNumber (l : Launch) (g : he_G) (z0 : Nat) (z1 : Nat) (y0 : Nat) (n : Nat) (k : Nat) (fa : Int32) (pl : Int32) (tp : Nat → Int32) (nu : Nat → Int32) (i : Nat) (lo : Int32) (hi : Int32) (hk : k ≤ n) (hn : n ≤ 500) (hi3 : i < 3) : he_I l yX7_readNumber wsX7_readNumber 1 22 0 0 g [.ref z0, .int (nI i), .int lo, .int hi] [(oX7 z0 y0 (nI n) (nI k) fa pl z1), (aB g y0 500 tp), (aI g z1 3 nu)] (fun (r : Int32) (u : Nat × Int32 × Int32 × (Nat → Int32)) => k ≤ u.1 ∧ u.1 ≤ n ∧ (r = 0 ∨ (r = 1 ∧ ∃ v, u.2.2.2 = upd nu i v ∧ ¬ he_within v lo hi = 0))) (fun (u : Nat × Int32 × Int32 × (Nat → Int32)) => [(oX7 z0 y0 (nI n) (nI u.1) u.2.1 u.2.2.1 z1), (aB g y0 500 tp), (aI g z1 3 u.2.2.2)]) := by
  refine he_begin (l := l) (g := g) (y := yX7_readNumber) (wl := wsX7_readNumber) (fr := 1) (lo := 22) (mc := 0) (ms := 0) (av := [.ref z0, .int (nI i), .int lo, .int hi]) (ws := [(oX7 z0 y0 (nI n) (nI k) fa pl z1), (aB g y0 500 tp), (aI g z1 3 nu)]) (cc := cX7_readNumber) (maxL := 6) (ret := (some .boolean)) (fun A => va_Qi (fun (r : Int32) (u : Nat × Int32 × Int32 × (Nat → Int32)) => k ≤ u.1 ∧ u.1 ≤ n ∧ (r = 0 ∨ (r = 1 ∧ ∃ v, u.2.2.2 = upd nu i v ∧ ¬ he_within v lo hi = 0))) (fun u t => he_post g A ((fun (u : Nat × Int32 × Int32 × (Nat → Int32)) => [(oX7 z0 y0 (nI n) (nI u.1) u.2.1 u.2.2.1 z1), (aB g y0 500 tp), (aI g z1 3 u.2.2.2)]) u) t) A) (by decide) rfl (Nat.le_of_ble_eq_true rfl) ?_
  intro p e s m args below meth c A ls H locs Q hQ hB
  obtain ⟨hx, hb, hr, hml, hown, hts, hlk, hin, hP, hK, hD, hS, hA, hE, hl⟩ := hB
  have hl : lv_has ls 6 [(0, .ref z0), (1, .int (nI i)), (2, .int lo), (3, .int hi)] := hl
  have f32 := hts (.fieldLink RX7 32 "HiredEnemy$Reader" "at" "I") (iwoX7_readNumber (k := 0) rfl)
  have inX7 : ∀ w ∈ wsX70, w ∈ wsX7_readNumber := innX7_readNumber_X7
  have nl88 := hE.nest (RX7, 88, yX10_within) (by decide +kernel)
  have iniX10 := hts (.initialized RX10) (iwoX7_readNumber (k := 17) rfl)
  have st_yX10_within := hts (.static yX10_within) (iwoX7_readNumber (k := 16) rfl)
  have f19 := hts (.fieldLink RX7 19 "HiredEnemy$Reader" "numbers" "[I") (iwoX7_readNumber (k := 8) rfl)
  have f29 := hts (.fieldLink RX7 29 "HiredEnemy$Reader" "length" "I") (iwoX7_readNumber (k := 1) rfl)
  have f9 := hts (.fieldLink RX7 9 "HiredEnemy$Reader" "bytes" "[B") (iwoX7_readNumber (k := 2) rfl)
  have kc87 := hts (.constant RX7 87 100000) (iwoX7_readNumber (k := 3) rfl)
  have ml23 := hts (.methodLink RX7 23 Lib.Math.min.name) (iwoX7_readNumber (k := 4) rfl)
  have msmin := hts (.static Lib.Math.min.name) (iwoX7_readNumber (k := 5) rfl)
  have mi := hts (.initialized "java/lang/Math") (iwoX7_readNumber (k := 6) rfl)
  have mcmin := hts (.code Lib.Math.min.name Lib.Math.min.code 2 (some .int)) (iwoX7_readNumber (k := 7) rfl)
  refine lv_aload_n hx hb dX7_readNumber_0 rfl (lv_at hl 0 rfl) ?_
  refine he_cv (wc := [(oX7 z0 y0 (nI n) (nI k) fa pl z1), (aB g y0 500 tp)]) (wr := [(aI g z1 3 nu)]) (va_runV (As := []) (rest := []) ⟨hx, hb, hml, hown, hts⟩ (g_X7_skipBlanks l g z0 z1 y0 n k fa pl tp (by first | assumption | decide | omega) (by first | assumption | decide | omega) H.size) (cwV 0 hts gX7_readNumber_X7_skipBlanks rfl rfl rfl (by decide +kernel) ⟨Nat.le_of_ble_eq_true rfl, Nat.le_of_ble_eq_true rfl⟩) (he_preV (wc := [(oX7 z0 y0 (nI n) (nI k) fa pl z1), (aB g y0 500 tp)]) hK hP hD hS hA hE [0, 1] rfl rfl 0 rfl rfl) rfl rfl hl.1 rfl (lv_room (Nat.le_of_ble_eq_true rfl)) dX7_readNumber_1 ⟨(Nat.le_of_ble_eq_true rfl), (Nat.le_of_ble_eq_true rfl)⟩) hP hD hS hA [0, 1] [2] rfl rfl rfl (by decide) (fun u_2 H locs h_3 hP hD hS => ?_)
  obtain ⟨k2_4, rfl⟩ : ∃ z, z = u_2 := ⟨_, rfl⟩
  try dsimp only at h_3
  obtain ⟨hf_5, hf_6⟩ := h_3
  have hP : va_P g.1 vwCl [(aI g z1 3 nu), (oX7 z0 y0 (nI n) (nI k2_4) fa pl z1), (aB g y0 500 tp)] H := hP
  have hD : va_D A [(aI g z1 3 nu), (oX7 z0 y0 (nI n) (nI k2_4) fa pl z1), (aB g y0 500 tp)] := hD
  refine lv_aload_n hx hb dX7_readNumber_4 rfl (lv_at hl 0 rfl) ?_
  refine va_get (v := .int (nI k2_4)) (T := TX7) (N := 6) hx hb hts inX7 hown hK hP 1 rfl rfl 2 (by decide) f32 (fun _ h9 => h9) rfl dX7_readNumber_5 ?_
  refine lv_istore (lv' := [(4, .int (nI k2_4)), (0, .ref z0), (1, .int (nI i)), (2, .int lo), (3, .int hi)]) hx hb dX7_readNumber_8 hl (by decide) rfl (fun ls hl => ?_)
  refine lv_iconst (v := 0) hx hb dX7_readNumber_10 (by decide) ?_
  have join90 : ∀ (ee : Nat) (vv : Int32), (k ≤ ee) → (ee ≤ n) → ∀ (H : Heap) (locs : List Loc) (ls : Array Slot), va_P g.1 vwCl [(oX7 z0 y0 (nI n) (nI ee) fa pl z1), (aB g y0 500 tp), (aI g z1 3 nu)] H → va_D A [(oX7 z0 y0 (nI n) (nI ee) fa pl z1), (aB g y0 500 tp), (aI g z1 3 nu)] → va_S A s.heap H locs → lv_has ls 6 [(0, .ref z0), (1, .int (nI i)), (2, .int lo), (3, .int hi), (4, .int (nI k2_4)), (5, .int vv)] → W p l e (he_room 1 22 0 0) s m args below meth c H locs 0 0 Q (F0 m 90 ls []) := by
    intro ee vv he1 he2 H locs ls hP hD hS hl
    refine lv_aload_n hx hb dX7_readNumber_90 rfl (lv_at hl 0 rfl) ?_
    refine va_get (v := .int (nI ee)) (T := TX7) (N := 6) hx hb hts inX7 hown hK hP 0 rfl rfl 2 (by decide) f32 (fun _ h9 => h9) rfl dX7_readNumber_91 ?_
    refine lv_iload hx hb dX7_readNumber_94 (lv_at hl 4 rfl) ?_
    refine lv_icmp_ne (tgt := 107) hx hb dX7_readNumber_96 (by decide) (fun c_7 => ?_) (fun c_7 => ?_)
    · have k_8 : ¬ (ee = k2_4) := fun h9 => c_7 ((he_ceq (a := ee) (b := k2_4) rfl rfl (by omega) (by omega)).mpr h9)
      refine lv_iload hx hb dX7_readNumber_107 (lv_at hl 5 rfl) ?_
      refine lv_iload_n hx hb dX7_readNumber_109 rfl (lv_at hl 2 rfl) ?_
      refine lv_iload_n hx hb dX7_readNumber_110 rfl (lv_at hl 3 rfl) ?_
      refine he_ci (wc := []) (wr := [(oX7 z0 y0 (nI n) (nI ee) fa pl z1), (aB g y0 500 tp), (aI g z1 3 nu)]) (va_runSN (As := [.int vv, .int lo, .int hi]) (rest := []) ⟨hx, hb, hml, hown, hts⟩ (c_X10_within l g vv lo hi H.size) ⟨(va_cnB 3 hts gX7_readNumber_X10_within_n88 rfl rfl rfl nl88 iniX10 (by decide +kernel) ⟨Nat.le_of_ble_eq_true rfl, Nat.le_of_ble_eq_true rfl⟩), st_yX10_within, trivial⟩ (he_preS (wc := []) hK hP hD hS hA hE [] rfl rfl) rfl rfl hl.1 rfl (lv_room (Nat.le_of_ble_eq_true rfl)) dX7_readNumber_111 ⟨(Nat.le_of_ble_eq_true rfl), (Nat.le_of_ble_eq_true rfl)⟩) hP hD hS hA [] [0, 1, 2] rfl rfl rfl (by decide) (fun r_9 u_10 H locs h_11 hP hD hS => ?_)
      subst h_11
      have hP : va_P g.1 vwCl [(oX7 z0 y0 (nI n) (nI ee) fa pl z1), (aB g y0 500 tp), (aI g z1 3 nu)] H := hP
      have hD : va_D A [(oX7 z0 y0 (nI n) (nI ee) fa pl z1), (aB g y0 500 tp), (aI g z1 3 nu)] := hD
      refine lv_if_ne (tgt := 125) hx hb dX7_readNumber_114 (by decide) (fun c_12 => ?_) (fun c_12 => ?_)
      · refine lv_aload_n hx hb dX7_readNumber_125 rfl (lv_at hl 0 rfl) ?_
        refine va_get (v := .ref z1) (T := TX7) (N := 6) hx hb hts inX7 hown hK hP 0 rfl rfl 5 (by decide) f19 (fun _ h9 => h9) rfl dX7_readNumber_126 ?_
        refine lv_iload_n hx hb dX7_readNumber_129 rfl (lv_at hl 1 rfl) ?_
        refine lv_iload hx hb dX7_readNumber_130 (lv_at hl 5 rfl) ?_
        refine he_iast hx hb hK hP hD hS 2 rfl (i) rfl (by first | assumption | decide | omega) (by first | decide | assumption) dX7_readNumber_132 (fun H locs hP hD hS => ?_)
        have hP : va_P g.1 vwCl [(oX7 z0 y0 (nI n) (nI ee) fa pl z1), (aB g y0 500 tp), (aI g z1 3 (upd nu i vv))] H := hP
        have hD : va_D A [(oX7 z0 y0 (nI n) (nI ee) fa pl z1), (aB g y0 500 tp), (aI g z1 3 (upd nu i vv))] := hD
        refine lv_iconst (v := 1) hx hb dX7_readNumber_133 (by decide) ?_
        exact he_rz hQ hx hb hr hlk hP hD hS dX7_readNumber_134 (Nat.le_of_ble_eq_true rfl) (Nat.le_of_ble_eq_true rfl) rfl ((ee, fa, pl, upd nu i vv)) (rfl) (⟨by (try dsimp only); omega, by (try dsimp only); omega, Or.inr ⟨rfl, _, rfl, c_12⟩⟩)
      · refine lv_aload_n hx hb dX7_readNumber_117 rfl (lv_at hl 0 rfl) ?_
        refine lv_iconst (v := 2) hx hb dX7_readNumber_118 (by decide) ?_
        refine lv_iload hx hb dX7_readNumber_119 (lv_at hl 4 rfl) ?_
        refine he_ci (wc := [(oX7 z0 y0 (nI n) (nI ee) fa pl z1), (aB g y0 500 tp)]) (wr := [(aI g z1 3 nu)]) (va_runV (As := [.int 2, .int (nI k2_4)]) (rest := []) ⟨hx, hb, hml, hown, hts⟩ (g_X7_fail l g z0 z1 y0 n ee fa pl tp 2 (nI k2_4) H.size) (cwV 2 hts gX7_readNumber_X7_fail rfl rfl rfl (by decide +kernel) ⟨Nat.le_of_ble_eq_true rfl, Nat.le_of_ble_eq_true rfl⟩) (he_preV (wc := [(oX7 z0 y0 (nI n) (nI ee) fa pl z1), (aB g y0 500 tp)]) hK hP hD hS hA hE [0, 1] rfl rfl 0 rfl rfl) rfl rfl hl.1 rfl (lv_room (Nat.le_of_ble_eq_true rfl)) dX7_readNumber_121 ⟨(Nat.le_of_ble_eq_true rfl), (Nat.le_of_ble_eq_true rfl)⟩) hP hD hS hA [0, 1] [2] rfl rfl rfl (by decide) (fun r_13 u_14 H locs h_15 hP hD hS => ?_)
        subst h_15
        have hP : va_P g.1 vwCl [(aI g z1 3 nu), (oX7 z0 y0 (nI n) (nI ee) 2 (nI k2_4) z1), (aB g y0 500 tp)] H := hP
        have hD : va_D A [(aI g z1 3 nu), (oX7 z0 y0 (nI n) (nI ee) 2 (nI k2_4) z1), (aB g y0 500 tp)] := hD
        have hP := hP.sub (ws' := [(oX7 z0 y0 (nI n) (nI ee) 2 (nI k2_4) z1), (aB g y0 500 tp), (aI g z1 3 nu)]) [1, 2, 0] rfl
        have hD := hD.sub (ws' := [(oX7 z0 y0 (nI n) (nI ee) 2 (nI k2_4) z1), (aB g y0 500 tp), (aI g z1 3 nu)]) [1, 2, 0] (by decide) rfl
        exact he_rz hQ hx hb hr hlk hP hD hS dX7_readNumber_124 (Nat.le_of_ble_eq_true rfl) (Nat.le_of_ble_eq_true rfl) rfl ((ee, 2, nI k2_4, nu)) (rfl) (⟨by (try dsimp only); omega, by (try dsimp only); omega, Or.inl rfl⟩)
    · have k_16 : ee = k2_4 := (he_ceq (a := ee) (b := k2_4) rfl rfl (by omega) (by omega)).mp c_7
      refine lv_aload_n hx hb dX7_readNumber_99 rfl (lv_at hl 0 rfl) ?_
      refine lv_iconst (v := 1) hx hb dX7_readNumber_100 (by decide) ?_
      refine lv_iload hx hb dX7_readNumber_101 (lv_at hl 4 rfl) ?_
      refine he_ci (wc := [(oX7 z0 y0 (nI n) (nI ee) fa pl z1), (aB g y0 500 tp)]) (wr := [(aI g z1 3 nu)]) (va_runV (As := [.int 1, .int (nI k2_4)]) (rest := []) ⟨hx, hb, hml, hown, hts⟩ (g_X7_fail l g z0 z1 y0 n ee fa pl tp 1 (nI k2_4) H.size) (cwV 2 hts gX7_readNumber_X7_fail rfl rfl rfl (by decide +kernel) ⟨Nat.le_of_ble_eq_true rfl, Nat.le_of_ble_eq_true rfl⟩) (he_preV (wc := [(oX7 z0 y0 (nI n) (nI ee) fa pl z1), (aB g y0 500 tp)]) hK hP hD hS hA hE [0, 1] rfl rfl 0 rfl rfl) rfl rfl hl.1 rfl (lv_room (Nat.le_of_ble_eq_true rfl)) dX7_readNumber_103 ⟨(Nat.le_of_ble_eq_true rfl), (Nat.le_of_ble_eq_true rfl)⟩) hP hD hS hA [0, 1] [2] rfl rfl rfl (by decide) (fun r_17 u_18 H locs h_19 hP hD hS => ?_)
      subst h_19
      have hP : va_P g.1 vwCl [(aI g z1 3 nu), (oX7 z0 y0 (nI n) (nI ee) 1 (nI k2_4) z1), (aB g y0 500 tp)] H := hP
      have hD : va_D A [(aI g z1 3 nu), (oX7 z0 y0 (nI n) (nI ee) 1 (nI k2_4) z1), (aB g y0 500 tp)] := hD
      have hP := hP.sub (ws' := [(oX7 z0 y0 (nI n) (nI ee) 1 (nI k2_4) z1), (aB g y0 500 tp), (aI g z1 3 nu)]) [1, 2, 0] rfl
      have hD := hD.sub (ws' := [(oX7 z0 y0 (nI n) (nI ee) 1 (nI k2_4) z1), (aB g y0 500 tp), (aI g z1 3 nu)]) [1, 2, 0] (by decide) rfl
      exact he_rz hQ hx hb hr hlk hP hD hS dX7_readNumber_106 (Nat.le_of_ble_eq_true rfl) (Nat.le_of_ble_eq_true rfl) rfl ((ee, 1, nI k2_4, nu)) (rfl) (⟨by (try dsimp only); omega, by (try dsimp only); omega, Or.inl rfl⟩)
  refine lv_istore (lv' := [(5, .int 0), (4, .int (nI k2_4)), (0, .ref z0), (1, .int (nI i)), (2, .int lo), (3, .int hi)]) hx hb dX7_readNumber_11 hl (by decide) rfl (fun ls hl => ?_)
  have loop13 : ∀ (n9 : Nat) (ee : Nat) (vv : Int32), n - ee < n9 → (k ≤ ee) → (ee ≤ n) → ∀ (H : Heap) (locs : List Loc) (ls : Array Slot), va_P g.1 vwCl [(oX7 z0 y0 (nI n) (nI ee) fa pl z1), (aB g y0 500 tp), (aI g z1 3 nu)] H → va_D A [(oX7 z0 y0 (nI n) (nI ee) fa pl z1), (aB g y0 500 tp), (aI g z1 3 nu)] → va_S A s.heap H locs → lv_has ls 6 [(0, .ref z0), (1, .int (nI i)), (2, .int lo), (3, .int hi), (4, .int (nI k2_4)), (5, .int vv)] → W p l e (he_room 1 22 0 0) s m args below meth c H locs 0 0 Q (F0 m 13 ls []) := by
    intro n9
    induction n9 with
    | zero => intro ee vv hm9; exact absurd hm9 (Nat.not_lt_zero _)
    | succ n9 ih13 =>
      intro ee vv hm9 he1 he2 H locs ls hP hD hS hl
      refine lv_aload_n hx hb dX7_readNumber_13 rfl (lv_at hl 0 rfl) ?_
      refine va_get (v := .int (nI ee)) (T := TX7) (N := 6) hx hb hts inX7 hown hK hP 0 rfl rfl 2 (by decide) f32 (fun _ h9 => h9) rfl dX7_readNumber_14 ?_
      refine lv_aload_n hx hb dX7_readNumber_17 rfl (lv_at hl 0 rfl) ?_
      refine va_get (v := .int (nI n)) (T := TX7) (N := 6) hx hb hts inX7 hown hK hP 0 rfl rfl 1 (by decide) f29 (fun _ h9 => h9) rfl dX7_readNumber_18 ?_
      refine lv_icmp_ge (tgt := 90) hx hb dX7_readNumber_21 (by decide) (fun c_20 => ?_) (fun c_20 => ?_)
      · have k_21 : n ≤ ee := (he_cle (a := n) (b := ee) rfl rfl (by omega) (by omega)).mp c_20
        exact join90 ee vv (by omega) (by omega) _ _ _ hP hD hS (lv_sub hl [0, 1, 2, 3, 4, 5] rfl)
      · have k_22 : ¬ (n ≤ ee) := fun h9 => c_20 ((he_cle (a := n) (b := ee) rfl rfl (by omega) (by omega)).mpr h9)
        refine lv_aload_n hx hb dX7_readNumber_24 rfl (lv_at hl 0 rfl) ?_
        refine va_get (v := .ref y0) (T := TX7) (N := 6) hx hb hts inX7 hown hK hP 0 rfl rfl 0 (by decide) f9 (fun _ h9 => h9) rfl dX7_readNumber_25 ?_
        refine lv_aload_n hx hb dX7_readNumber_28 rfl (lv_at hl 0 rfl) ?_
        refine va_get (v := .int (nI ee)) (T := TX7) (N := 6) hx hb hts inX7 hown hK hP 0 rfl rfl 2 (by decide) f32 (fun _ h9 => h9) rfl dX7_readNumber_29 ?_
        refine he_bald hx hb hK hP 1 rfl (ee) rfl (by first | assumption | decide | omega) (by first | decide | assumption) (tp ee) rfl dX7_readNumber_32 ?_
        refine lv_bipush (v := 48) hx hb dX7_readNumber_33 (by decide) ?_
        refine lv_icmp_lt (tgt := 90) hx hb dX7_readNumber_35 (by decide) (fun c_23 => ?_) (fun c_23 => ?_)
        · exact join90 ee vv (by omega) (by omega) _ _ _ hP hD hS (lv_sub hl [0, 1, 2, 3, 4, 5] rfl)
        · refine lv_aload_n hx hb dX7_readNumber_38 rfl (lv_at hl 0 rfl) ?_
          refine va_get (v := .ref y0) (T := TX7) (N := 6) hx hb hts inX7 hown hK hP 0 rfl rfl 0 (by decide) f9 (fun _ h9 => h9) rfl dX7_readNumber_39 ?_
          refine lv_aload_n hx hb dX7_readNumber_42 rfl (lv_at hl 0 rfl) ?_
          refine va_get (v := .int (nI ee)) (T := TX7) (N := 6) hx hb hts inX7 hown hK hP 0 rfl rfl 2 (by decide) f32 (fun _ h9 => h9) rfl dX7_readNumber_43 ?_
          refine he_bald hx hb hK hP 1 rfl (ee) rfl (by first | assumption | decide | omega) (by first | decide | assumption) (tp ee) rfl dX7_readNumber_46 ?_
          refine lv_bipush (v := 57) hx hb dX7_readNumber_47 (by decide) ?_
          refine lv_icmp_gt (tgt := 90) hx hb dX7_readNumber_49 (by decide) (fun c_24 => ?_) (fun c_24 => ?_)
          · exact join90 ee vv (by omega) (by omega) _ _ _ hP hD hS (lv_sub hl [0, 1, 2, 3, 4, 5] rfl)
          · refine lv_iload hx hb dX7_readNumber_52 (lv_at hl 5 rfl) ?_
            refine lv_bipush (v := 10) hx hb dX7_readNumber_54 (by decide) ?_
            refine lv_imul hx hb dX7_readNumber_56 ?_
            refine lv_aload_n hx hb dX7_readNumber_57 rfl (lv_at hl 0 rfl) ?_
            refine va_get (v := .ref y0) (T := TX7) (N := 6) hx hb hts inX7 hown hK hP 0 rfl rfl 0 (by decide) f9 (fun _ h9 => h9) rfl dX7_readNumber_58 ?_
            refine lv_aload_n hx hb dX7_readNumber_61 rfl (lv_at hl 0 rfl) ?_
            refine va_get (v := .int (nI ee)) (T := TX7) (N := 6) hx hb hts inX7 hown hK hP 0 rfl rfl 2 (by decide) f32 (fun _ h9 => h9) rfl dX7_readNumber_62 ?_
            refine he_bald hx hb hK hP 1 rfl (ee) rfl (by first | assumption | decide | omega) (by first | decide | assumption) (tp ee) rfl dX7_readNumber_65 ?_
            refine lv_iadd hx hb dX7_readNumber_66 ?_
            refine lv_bipush (v := 48) hx hb dX7_readNumber_67 (by decide) ?_
            refine lv_isub hx hb dX7_readNumber_69 ?_
            refine lv_ldc (v := 100000) hx hb hown kc87 dX7_readNumber_70 ?_
            refine va_mmin hx hb (by rw [hml]; exact hl.1.symm) hown ml23 msmin mi mcmin (by decide) (Nat.le_of_ble_eq_true rfl) (Nat.le_of_ble_eq_true rfl) (Nat.le_of_ble_eq_true rfl) dX7_readNumber_72 ?_
            refine lv_istore (lv' := [(5, .int (if 100000 < (((vv * 10) + (tp ee)) - 48) then 100000 else ((vv * 10) + (tp ee)) - 48)), (0, .ref z0), (1, .int (nI i)), (2, .int lo), (3, .int hi), (4, .int (nI k2_4))]) hx hb dX7_readNumber_75 hl (by decide) rfl (fun ls hl => ?_)
            refine lv_aload_n hx hb dX7_readNumber_77 rfl (lv_at hl 1 rfl) ?_
            refine lv_dup hx hb dX7_readNumber_78 rfl ?_
            refine va_get (v := .int (nI ee)) (T := TX7) (N := 6) hx hb hts inX7 hown hK hP 0 rfl rfl 2 (by decide) f32 (fun _ h9 => h9) rfl dX7_readNumber_79 ?_
            refine lv_iconst (v := 1) hx hb dX7_readNumber_82 (by decide) ?_
            refine lv_iadd hx hb dX7_readNumber_83 ?_
            refine he_top (nI (ee + 1)) (nI_add ee 1) ?_
            refine va_put (v := .int (nI (ee + 1))) (ty := .int) (T := TX7) (N := 6) hx hb hts inX7 tyX7 tyX7_ok nmX7 hown hK hP hD hS 0 rfl rfl 2 (by decide) f32 (fun _ h9 => h9) rfl (by decide +kernel) rfl rfl (Nat.le_of_ble_eq_true rfl) dX7_readNumber_84 (fun H locs hP hD hS => ?_)
            have hP : va_P g.1 vwCl [(oX7 z0 y0 (nI n) (nI (ee + 1)) fa pl z1), (aB g y0 500 tp), (aI g z1 3 nu)] H := hP
            have hD : va_D A [(oX7 z0 y0 (nI n) (nI (ee + 1)) fa pl z1), (aB g y0 500 tp), (aI g z1 3 nu)] := hD
            refine lv_goto (tgt := 13) hx hb dX7_readNumber_87 (by decide) ?_
            exact ih13 (ee + 1) (if 100000 < (((vv * 10) + (tp ee)) - 48) then 100000 else ((vv * 10) + (tp ee)) - 48) (by omega) (by omega) (by omega) _ _ _ hP hD hS (lv_sub hl [1, 2, 3, 4, 5, 0] rfl)
  exact loop13 ((n - k2_4) + 1) k2_4 0 (Nat.lt_succ_self _) (by omega) (by omega) _ _ _ (hP.sub [1, 2, 0] rfl) (hD.sub [1, 2, 0] (by decide) rfl) hS (lv_sub hl [2, 3, 4, 5, 1, 0] rfl)
set_option maxHeartbeats 4000000 in
set_option maxRecDepth 100000 in
theorem g_X7_readPart6 (l : Launch) (g : he_G) (z0 : Nat) (z1 : Nat) (y0 : Nat) (n : Nat) (k : Nat) (fa : Int32) (pl : Int32) (tp : Nat → Int32) (nu : Nat → Int32) (p0 : Nat) (p1 : Nat) (p2 : Nat) (p3 : Nat) (p4 : Nat) (w : Nat) (sd : Nat → Int32) (fn : Nat → Int32) (st : Nat → Int32) (me : Nat → Int32) (bf : Int32) (hk : k ≤ n) (hn : n ≤ 500) (hw6 : w ≤ 6) : he_I l yX7_readPart wsX7_readPart 6 135 0 0 g [.ref z0, .ref p0, .int bf] [(oX7 z0 y0 (nI n) (nI k) fa pl z1), (aB g y0 500 tp), (aI g z1 3 nu), (oX6 p0 p1 p2 p3 p4 (nI w)), (aI g p1 24 sd), (aI g p2 10 fn), (aI g p3 6 st), (aI g p4 6 me)] (fun (r : Int32) (u : Nat × Int32 × Int32 × (Nat → Int32) × Nat × (Nat → Int32) × (Nat → Int32) × (Nat → Int32) × (Nat → Int32)) => k ≤ u.1 ∧ u.1 ≤ n ∧ (r = 0 ∨ r = 1) ∧ u.2.2.2.2.1 ≤ 6) (fun (u : Nat × Int32 × Int32 × (Nat → Int32) × Nat × (Nat → Int32) × (Nat → Int32) × (Nat → Int32) × (Nat → Int32)) => [(oX7 z0 y0 (nI n) (nI u.1) u.2.1 u.2.2.1 z1), (aB g y0 500 tp), (aI g z1 3 u.2.2.2.1), (oX6 p0 p1 p2 p3 p4 (nI u.2.2.2.2.1)), (aI g p1 24 u.2.2.2.2.2.1), (aI g p2 10 u.2.2.2.2.2.2.1), (aI g p3 6 u.2.2.2.2.2.2.2.1), (aI g p4 6 u.2.2.2.2.2.2.2.2)]) := by
  refine he_begin (l := l) (g := g) (y := yX7_readPart) (wl := wsX7_readPart) (fr := 6) (lo := 135) (mc := 0) (ms := 0) (av := [.ref z0, .ref p0, .int bf]) (ws := [(oX7 z0 y0 (nI n) (nI k) fa pl z1), (aB g y0 500 tp), (aI g z1 3 nu), (oX6 p0 p1 p2 p3 p4 (nI w)), (aI g p1 24 sd), (aI g p2 10 fn), (aI g p3 6 st), (aI g p4 6 me)]) (cc := cX7_readPart) (maxL := 7) (ret := (some .boolean)) (fun A => va_Qi (fun (r : Int32) (u : Nat × Int32 × Int32 × (Nat → Int32) × Nat × (Nat → Int32) × (Nat → Int32) × (Nat → Int32) × (Nat → Int32)) => k ≤ u.1 ∧ u.1 ≤ n ∧ (r = 0 ∨ r = 1) ∧ u.2.2.2.2.1 ≤ 6) (fun u t => he_post g A ((fun (u : Nat × Int32 × Int32 × (Nat → Int32) × Nat × (Nat → Int32) × (Nat → Int32) × (Nat → Int32) × (Nat → Int32)) => [(oX7 z0 y0 (nI n) (nI u.1) u.2.1 u.2.2.1 z1), (aB g y0 500 tp), (aI g z1 3 u.2.2.2.1), (oX6 p0 p1 p2 p3 p4 (nI u.2.2.2.2.1)), (aI g p1 24 u.2.2.2.2.2.1), (aI g p2 10 u.2.2.2.2.2.2.1), (aI g p3 6 u.2.2.2.2.2.2.2.1), (aI g p4 6 u.2.2.2.2.2.2.2.2)]) u) t) A) (by decide) rfl (Nat.le_of_ble_eq_true rfl) ?_
  intro p e s m args below meth c A ls H locs Q hQ hB
  obtain ⟨hx, hb, hr, hml, hown, hts, hlk, hin, hP, hK, hD, hS, hA, hE, hl⟩ := hB
  have hl : lv_has ls 7 [(0, .ref z0), (1, .ref p0), (2, .int bf)] := hl
  have f32 := hts (.fieldLink RX7 32 "HiredEnemy$Reader" "at" "I") (iwoX7_readPart (k := 0) rfl)
  have inX7 : ∀ w ∈ wsX70, w ∈ wsX7_readPart := innX7_readPart_X7
  have dc54 := hE.decl ⟨RX9, "words", "()Ljava/lang/String;"⟩ (by decide +kernel)
  have dc38 := hE.decl ⟨RX9, "mostParts", "()I"⟩ (by decide +kernel)
  have dc66 := hE.decl ⟨RX9, "isFull", "(I)Z"⟩ (by decide +kernel)
  have dc70 := hE.decl ⟨RX9, "numbers", "(I)I"⟩ (by decide +kernel)
  have f19 := hts (.fieldLink RX7 19 "HiredEnemy$Reader" "numbers" "[I") (iwoX7_readPart (k := 1) rfl)
  have ml23 := hts (.methodLink RX7 23 Lib.Math.min.name) (iwoX7_readPart (k := 2) rfl)
  have msmin := hts (.static Lib.Math.min.name) (iwoX7_readPart (k := 3) rfl)
  have mi := hts (.initialized "java/lang/Math") (iwoX7_readPart (k := 4) rfl)
  have mcmin := hts (.code Lib.Math.min.name Lib.Math.min.code 2 (some .int)) (by decide +kernel)
  have f29 := hts (.fieldLink RX7 29 "HiredEnemy$Reader" "length" "I") (iwoX7_readPart (k := 5) rfl)
  have f9 := hts (.fieldLink RX7 9 "HiredEnemy$Reader" "bytes" "[B") (iwoX7_readPart (k := 6) rfl)
  have dc83 := hE.decl ⟨RX9, "store", "(I[I)V"⟩ (by decide +kernel)
  have dc73 := hE.decl ⟨RX9, "low", "(II)I"⟩ (by decide +kernel)
  have dc76 := hE.decl ⟨RX9, "high", "(II)I"⟩ (by decide +kernel)
  refine lv_aload_n hx hb dX7_readPart_0 rfl (lv_at hl 0 rfl) ?_
  refine va_get (v := .int (nI k)) (T := TX7) (N := 6) hx hb hts inX7 hown hK hP 0 rfl rfl 2 (by decide) f32 (fun _ h9 => h9) rfl dX7_readPart_1 ?_
  refine lv_istore_n (lv' := [(3, .int (nI k)), (0, .ref z0), (1, .ref p0), (2, .int bf)]) hx hb dX7_readPart_4 rfl hl (by decide) rfl (fun ls hl => ?_)
  refine lv_aload_n hx hb dX7_readPart_5 rfl (lv_at hl 1 rfl) ?_
  refine he_cv (wc := [(oX7 z0 y0 (nI n) (nI k) fa pl z1), (aB g y0 500 tp)]) (wr := [(aI g z1 3 nu), (oX6 p0 p1 p2 p3 p4 (nI w)), (aI g p1 24 sd), (aI g p2 10 fn), (aI g p3 6 st), (aI g p4 6 me)]) (va_runV (As := []) (rest := []) ⟨hx, hb, hml, hown, hts⟩ (g_X7_skipLetters l g z0 z1 y0 n k fa pl tp (by first | assumption | decide | omega) (by first | assumption | decide | omega) H.size) (cwV 0 hts gX7_readPart_X7_skipLetters rfl rfl rfl (by decide +kernel) ⟨Nat.le_of_ble_eq_true rfl, Nat.le_of_ble_eq_true rfl⟩) (he_preV (wc := [(oX7 z0 y0 (nI n) (nI k) fa pl z1), (aB g y0 500 tp)]) hK hP hD hS hA hE [0, 1] rfl rfl 0 rfl rfl) rfl rfl hl.1 rfl (lv_room (Nat.le_of_ble_eq_true rfl)) dX7_readPart_6 ⟨(Nat.le_of_ble_eq_true rfl), (Nat.le_of_ble_eq_true rfl)⟩) hP hD hS hA [0, 1] [2, 3, 4, 5, 6, 7] rfl rfl rfl (by decide) (fun u_2 H locs h_3 hP hD hS => ?_)
  obtain ⟨k2_4, rfl⟩ : ∃ z, z = u_2 := ⟨_, rfl⟩
  try dsimp only at h_3
  obtain ⟨hf_5, hf_6⟩ := h_3
  have hP : va_P g.1 vwCl [(aI g z1 3 nu), (oX6 p0 p1 p2 p3 p4 (nI w)), (aI g p1 24 sd), (aI g p2 10 fn), (aI g p3 6 st), (aI g p4 6 me), (oX7 z0 y0 (nI n) (nI k2_4) fa pl z1), (aB g y0 500 tp)] H := hP
  have hD : va_D A [(aI g z1 3 nu), (oX6 p0 p1 p2 p3 p4 (nI w)), (aI g p1 24 sd), (aI g p2 10 fn), (aI g p3 6 st), (aI g p4 6 me), (oX7 z0 y0 (nI n) (nI k2_4) fa pl z1), (aB g y0 500 tp)] := hD
  refine lv_aload_n hx hb dX7_readPart_9 rfl (lv_at hl 1 rfl) ?_
  refine lv_aload_n hx hb dX7_readPart_10 rfl (lv_at hl 2 rfl) ?_
  refine he_cq (wc := [(oX6 p0 p1 p2 p3 p4 (nI w))]) (wr := [(aI g z1 3 nu), (aI g p1 24 sd), (aI g p2 10 fn), (aI g p3 6 st), (aI g p4 6 me), (oX7 z0 y0 (nI n) (nI k2_4) fa pl z1), (aB g y0 500 tp)]) (va_runU (As := []) (rest := [.ref z0]) ⟨hx, hb, hml, hown, hts⟩ (g_X6_words l g p0 p1 p2 p3 p4 (nI w) H.size) (va_cwA 0 hts gX7_readPart_X6_words_u54X6 rfl rfl rfl dc54 (by decide +kernel) ⟨Nat.le_of_ble_eq_true rfl, Nat.le_of_ble_eq_true rfl⟩) (he_preV (wc := [(oX6 p0 p1 p2 p3 p4 (nI w))]) hK hP hD hS hA hE [1] rfl rfl 1 rfl rfl) rfl rfl hl.1 rfl (lv_room (Nat.le_of_ble_eq_true rfl)) dX7_readPart_11 ⟨(Nat.le_of_ble_eq_true rfl), (Nat.le_of_ble_eq_true rfl)⟩) hP hD hS hA [1] [0, 2, 3, 4, 5, 6, 7] rfl rfl rfl (by decide) (fun r_7 u_8 H locs h_9 hP hD hS => ?_)
  subst h_9
  have hP : va_P g.1 vwCl [(aI g z1 3 nu), (aI g p1 24 sd), (aI g p2 10 fn), (aI g p3 6 st), (aI g p4 6 me), (oX7 z0 y0 (nI n) (nI k2_4) fa pl z1), (aB g y0 500 tp), (oX6 p0 p1 p2 p3 p4 (nI w))] H := hP
  have hD : va_D A [(aI g z1 3 nu), (aI g p1 24 sd), (aI g p2 10 fn), (aI g p3 6 st), (aI g p4 6 me), (oX7 z0 y0 (nI n) (nI k2_4) fa pl z1), (aB g y0 500 tp), (oX6 p0 p1 p2 p3 p4 (nI w))] := hD
  refine lv_iload_n hx hb dX7_readPart_14 rfl (lv_at hl 0 rfl) ?_
  refine he_ci (wc := [(oX7 z0 y0 (nI n) (nI k2_4) fa pl z1), (aB g y0 500 tp)]) (wr := [(aI g z1 3 nu), (aI g p1 24 sd), (aI g p2 10 fn), (aI g p3 6 st), (aI g p4 6 me), (oX6 p0 p1 p2 p3 p4 (nI w))]) (va_runV (As := [.ref (g.2 10), .int (nI k)]) (rest := []) ⟨hx, hb, hml, hown, hts⟩ (g_X7_kindOf6 l g z0 z1 y0 n k2_4 fa pl tp k (by first | assumption | decide | omega) (by first | assumption | decide | omega) (by first | assumption | decide | omega) H.size) (cwV 2 hts gX7_readPart_X7_kindOf rfl rfl rfl (by decide +kernel) ⟨Nat.le_of_ble_eq_true rfl, Nat.le_of_ble_eq_true rfl⟩) (he_preV (wc := [(oX7 z0 y0 (nI n) (nI k2_4) fa pl z1), (aB g y0 500 tp)]) hK hP hD hS hA hE [5, 6] rfl rfl 5 rfl rfl) rfl rfl hl.1 rfl (lv_room (Nat.le_of_ble_eq_true rfl)) dX7_readPart_15 ⟨(Nat.le_of_ble_eq_true rfl), (Nat.le_of_ble_eq_true rfl)⟩) hP hD hS hA [5, 6] [0, 1, 2, 3, 4, 7] rfl rfl rfl (by decide) (fun r_10 u_11 H locs h_12 hP hD hS => ?_)
  have hP : va_P g.1 vwCl [(aI g z1 3 nu), (aI g p1 24 sd), (aI g p2 10 fn), (aI g p3 6 st), (aI g p4 6 me), (oX6 p0 p1 p2 p3 p4 (nI w)), (oX7 z0 y0 (nI n) (nI k2_4) fa pl z1), (aB g y0 500 tp)] H := hP
  have hD : va_D A [(aI g z1 3 nu), (aI g p1 24 sd), (aI g p2 10 fn), (aI g p3 6 st), (aI g p4 6 me), (oX6 p0 p1 p2 p3 p4 (nI w)), (oX7 z0 y0 (nI n) (nI k2_4) fa pl z1), (aB g y0 500 tp)] := hD
  refine lv_istore (lv' := [(4, .int r_10), (3, .int (nI k)), (0, .ref z0), (1, .ref p0), (2, .int bf)]) hx hb dX7_readPart_18 hl (by decide) rfl (fun ls hl => ?_)
  refine lv_iload hx hb dX7_readPart_20 (lv_at hl 0 rfl) ?_
  refine lv_iconst (v := (-1)) hx hb dX7_readPart_22 (by decide) ?_
  refine lv_icmp_ne (tgt := 33) hx hb dX7_readPart_23 (by decide) (fun c_13 => ?_) (fun c_13 => ?_)
  · have join50 : ∀ (_ : Unit), ∀ (H : Heap) (locs : List Loc) (ls : Array Slot), va_P g.1 vwCl [(aI g z1 3 nu), (aI g p1 24 sd), (aI g p2 10 fn), (aI g p3 6 st), (aI g p4 6 me), (oX6 p0 p1 p2 p3 p4 (nI w)), (oX7 z0 y0 (nI n) (nI k2_4) fa pl z1), (aB g y0 500 tp)] H → va_D A [(aI g z1 3 nu), (aI g p1 24 sd), (aI g p2 10 fn), (aI g p3 6 st), (aI g p4 6 me), (oX6 p0 p1 p2 p3 p4 (nI w)), (oX7 z0 y0 (nI n) (nI k2_4) fa pl z1), (aB g y0 500 tp)] → va_S A s.heap H locs → lv_has ls 7 [(4, .int r_10), (3, .int (nI k)), (0, .ref z0), (1, .ref p0), (2, .int bf)] → W p l e (he_room 6 135 0 0) s m args below meth c H locs 0 0 Q (F0 m 50 ls []) := by
      intro _ H locs ls hP hD hS hl
      refine lv_aload_n hx hb dX7_readPart_50 rfl (lv_at hl 2 rfl) ?_
      refine lv_iconst (v := 3) hx hb dX7_readPart_51 (by decide) ?_
      refine lv_iload_n hx hb dX7_readPart_52 rfl (lv_at hl 1 rfl) ?_
      refine he_ci (wc := [(oX7 z0 y0 (nI n) (nI k2_4) fa pl z1), (aB g y0 500 tp)]) (wr := [(aI g z1 3 nu), (aI g p1 24 sd), (aI g p2 10 fn), (aI g p3 6 st), (aI g p4 6 me), (oX6 p0 p1 p2 p3 p4 (nI w))]) (va_runV (As := [.int 3, .int (nI k)]) (rest := []) ⟨hx, hb, hml, hown, hts⟩ (g_X7_fail l g z0 z1 y0 n k2_4 fa pl tp 3 (nI k) H.size) (cwV 2 hts gX7_readPart_X7_fail rfl rfl rfl (by decide +kernel) ⟨Nat.le_of_ble_eq_true rfl, Nat.le_of_ble_eq_true rfl⟩) (he_preV (wc := [(oX7 z0 y0 (nI n) (nI k2_4) fa pl z1), (aB g y0 500 tp)]) hK hP hD hS hA hE [6, 7] rfl rfl 6 rfl rfl) rfl rfl hl.1 rfl (lv_room (Nat.le_of_ble_eq_true rfl)) dX7_readPart_53 ⟨(Nat.le_of_ble_eq_true rfl), (Nat.le_of_ble_eq_true rfl)⟩) hP hD hS hA [6, 7] [0, 1, 2, 3, 4, 5] rfl rfl rfl (by decide) (fun r_14 u_15 H locs h_16 hP hD hS => ?_)
      subst h_16
      have hP : va_P g.1 vwCl [(aI g z1 3 nu), (aI g p1 24 sd), (aI g p2 10 fn), (aI g p3 6 st), (aI g p4 6 me), (oX6 p0 p1 p2 p3 p4 (nI w)), (oX7 z0 y0 (nI n) (nI k2_4) 3 (nI k) z1), (aB g y0 500 tp)] H := hP
      have hD : va_D A [(aI g z1 3 nu), (aI g p1 24 sd), (aI g p2 10 fn), (aI g p3 6 st), (aI g p4 6 me), (oX6 p0 p1 p2 p3 p4 (nI w)), (oX7 z0 y0 (nI n) (nI k2_4) 3 (nI k) z1), (aB g y0 500 tp)] := hD
      have hP := hP.sub (ws' := [(oX7 z0 y0 (nI n) (nI k2_4) 3 (nI k) z1), (aB g y0 500 tp), (aI g z1 3 nu), (oX6 p0 p1 p2 p3 p4 (nI w)), (aI g p1 24 sd), (aI g p2 10 fn), (aI g p3 6 st), (aI g p4 6 me)]) [6, 7, 0, 5, 1, 2, 3, 4] rfl
      have hD := hD.sub (ws' := [(oX7 z0 y0 (nI n) (nI k2_4) 3 (nI k) z1), (aB g y0 500 tp), (aI g z1 3 nu), (oX6 p0 p1 p2 p3 p4 (nI w)), (aI g p1 24 sd), (aI g p2 10 fn), (aI g p3 6 st), (aI g p4 6 me)]) [6, 7, 0, 5, 1, 2, 3, 4] (by decide) rfl
      exact he_rz hQ hx hb hr hlk hP hD hS dX7_readPart_56 (Nat.le_of_ble_eq_true rfl) (Nat.le_of_ble_eq_true rfl) rfl ((k2_4, 3, nI k, nu, w, sd, fn, st, me)) (rfl) (⟨by (try dsimp only); omega, by (try dsimp only); omega, Or.inl rfl, by (try dsimp only); omega⟩)
    refine lv_iload_n hx hb dX7_readPart_33 rfl (lv_at hl 4 rfl) ?_
    refine lv_aload_n hx hb dX7_readPart_34 rfl (lv_at hl 3 rfl) ?_
    refine he_ci (wc := [(oX6 p0 p1 p2 p3 p4 (nI w))]) (wr := [(aI g z1 3 nu), (aI g p1 24 sd), (aI g p2 10 fn), (aI g p3 6 st), (aI g p4 6 me), (oX7 z0 y0 (nI n) (nI k2_4) fa pl z1), (aB g y0 500 tp)]) (va_runU (As := []) (rest := [.int bf]) ⟨hx, hb, hml, hown, hts⟩ (c_X6_mostParts l g p0 p1 p2 p3 p4 (nI w) H.size) (va_cwA 0 hts gX7_readPart_X6_mostParts_u38X6 rfl rfl rfl dc38 (by decide +kernel) ⟨Nat.le_of_ble_eq_true rfl, Nat.le_of_ble_eq_true rfl⟩) (he_preV (wc := [(oX6 p0 p1 p2 p3 p4 (nI w))]) hK hP hD hS hA hE [5] rfl rfl 5 rfl rfl) rfl rfl hl.1 rfl (lv_room (Nat.le_of_ble_eq_true rfl)) dX7_readPart_35 ⟨(Nat.le_of_ble_eq_true rfl), (Nat.le_of_ble_eq_true rfl)⟩) hP hD hS hA [5] [0, 1, 2, 3, 4, 6, 7] rfl rfl rfl (by decide) (fun r_17 u_18 H locs h_19 hP hD hS => ?_)
    subst h_19
    have hP : va_P g.1 vwCl [(aI g z1 3 nu), (aI g p1 24 sd), (aI g p2 10 fn), (aI g p3 6 st), (aI g p4 6 me), (oX7 z0 y0 (nI n) (nI k2_4) fa pl z1), (aB g y0 500 tp), (oX6 p0 p1 p2 p3 p4 (nI w))] H := hP
    have hD : va_D A [(aI g z1 3 nu), (aI g p1 24 sd), (aI g p2 10 fn), (aI g p3 6 st), (aI g p4 6 me), (oX7 z0 y0 (nI n) (nI k2_4) fa pl z1), (aB g y0 500 tp), (oX6 p0 p1 p2 p3 p4 (nI w))] := hD
    refine lv_icmp_ge (tgt := 50) hx hb dX7_readPart_38 (by decide) (fun c_20 => ?_) (fun c_20 => ?_)
    · exact join50 ()  _ _ _ (hP.sub [0, 1, 2, 3, 4, 7, 5, 6] rfl) (hD.sub [0, 1, 2, 3, 4, 7, 5, 6] (by decide) rfl) hS (lv_sub hl [0, 1, 2, 3, 4] rfl)
    · refine lv_aload_n hx hb dX7_readPart_41 rfl (lv_at hl 3 rfl) ?_
      refine lv_iload hx hb dX7_readPart_42 (lv_at hl 0 rfl) ?_
      refine he_ci (wc := [(oX6 p0 p1 p2 p3 p4 (nI w))]) (wr := [(aI g z1 3 nu), (aI g p1 24 sd), (aI g p2 10 fn), (aI g p3 6 st), (aI g p4 6 me), (oX7 z0 y0 (nI n) (nI k2_4) fa pl z1), (aB g y0 500 tp)]) (va_runU (As := [.int r_10]) (rest := []) ⟨hx, hb, hml, hown, hts⟩ (g_X6_isFull l g p0 p1 p2 p3 p4 (nI w) r_10 H.size) (va_cwA 1 hts gX7_readPart_X6_isFull_u66X6 rfl rfl rfl dc66 (by decide +kernel) ⟨Nat.le_of_ble_eq_true rfl, Nat.le_of_ble_eq_true rfl⟩) (he_preV (wc := [(oX6 p0 p1 p2 p3 p4 (nI w))]) hK hP hD hS hA hE [7] rfl rfl 7 rfl rfl) rfl rfl hl.1 rfl (lv_room (Nat.le_of_ble_eq_true rfl)) dX7_readPart_44 ⟨(Nat.le_of_ble_eq_true rfl), (Nat.le_of_ble_eq_true rfl)⟩) hP hD hS hA [7] [0, 1, 2, 3, 4, 5, 6] rfl rfl rfl (by decide) (fun r_21 u_22 H locs h_23 hP hD hS => ?_)
      have hP : va_P g.1 vwCl [(aI g z1 3 nu), (aI g p1 24 sd), (aI g p2 10 fn), (aI g p3 6 st), (aI g p4 6 me), (oX7 z0 y0 (nI n) (nI k2_4) fa pl z1), (aB g y0 500 tp), (oX6 p0 p1 p2 p3 p4 (nI w))] H := hP
      have hD : va_D A [(aI g z1 3 nu), (aI g p1 24 sd), (aI g p2 10 fn), (aI g p3 6 st), (aI g p4 6 me), (oX7 z0 y0 (nI n) (nI k2_4) fa pl z1), (aB g y0 500 tp), (oX6 p0 p1 p2 p3 p4 (nI w))] := hD
      refine lv_if_eq (tgt := 57) hx hb dX7_readPart_47 (by decide) (fun c_24 => ?_) (fun c_24 => ?_)
      · refine lv_aload_n hx hb dX7_readPart_57 rfl (lv_at hl 3 rfl) ?_
        refine lv_iload hx hb dX7_readPart_58 (lv_at hl 0 rfl) ?_
        refine he_ci (wc := [(oX6 p0 p1 p2 p3 p4 (nI w))]) (wr := [(aI g z1 3 nu), (aI g p1 24 sd), (aI g p2 10 fn), (aI g p3 6 st), (aI g p4 6 me), (oX7 z0 y0 (nI n) (nI k2_4) fa pl z1), (aB g y0 500 tp)]) (va_runU (As := [.int r_10]) (rest := []) ⟨hx, hb, hml, hown, hts⟩ (g_X6_numbers l g p0 p1 p2 p3 p4 (nI w) r_10 H.size) (va_cwA 1 hts gX7_readPart_X6_numbers_u70X6 rfl rfl rfl dc70 (by decide +kernel) ⟨Nat.le_of_ble_eq_true rfl, Nat.le_of_ble_eq_true rfl⟩) (he_preV (wc := [(oX6 p0 p1 p2 p3 p4 (nI w))]) hK hP hD hS hA hE [7] rfl rfl 7 rfl rfl) rfl rfl hl.1 rfl (lv_room (Nat.le_of_ble_eq_true rfl)) dX7_readPart_60 ⟨(Nat.le_of_ble_eq_true rfl), (Nat.le_of_ble_eq_true rfl)⟩) hP hD hS hA [7] [0, 1, 2, 3, 4, 5, 6] rfl rfl rfl (by decide) (fun r_25 u_26 H locs h_27 hP hD hS => ?_)
        subst h_27
        have hP : va_P g.1 vwCl [(aI g z1 3 nu), (aI g p1 24 sd), (aI g p2 10 fn), (aI g p3 6 st), (aI g p4 6 me), (oX7 z0 y0 (nI n) (nI k2_4) fa pl z1), (aB g y0 500 tp), (oX6 p0 p1 p2 p3 p4 (nI w))] H := hP
        have hD : va_D A [(aI g z1 3 nu), (aI g p1 24 sd), (aI g p2 10 fn), (aI g p3 6 st), (aI g p4 6 me), (oX7 z0 y0 (nI n) (nI k2_4) fa pl z1), (aB g y0 500 tp), (oX6 p0 p1 p2 p3 p4 (nI w))] := hD
        refine lv_aload_n hx hb dX7_readPart_63 rfl (lv_at hl 2 rfl) ?_
        refine va_get (v := .ref z1) (T := TX7) (N := 6) hx hb hts inX7 hown hK hP 5 rfl rfl 5 (by decide) f19 (fun _ h9 => h9) rfl dX7_readPart_64 ?_
        refine va_alen (v := 3) hx hb hK hP 0 1 rfl rfl rfl dX7_readPart_67 ?_
        refine va_mmin hx hb (by rw [hml]; exact hl.1.symm) hown ml23 msmin mi mcmin (by decide) (Nat.le_of_ble_eq_true rfl) (Nat.le_of_ble_eq_true rfl) (Nat.le_of_ble_eq_true rfl) dX7_readPart_68 ?_
        refine lv_istore (lv' := [(5, .int (if 3 < (numF r_10) then 3 else numF r_10)), (4, .int r_10), (3, .int (nI k)), (0, .ref z0), (1, .ref p0), (2, .int bf)]) hx hb dX7_readPart_71 hl (by decide) rfl (fun ls hl => ?_)
        refine lv_iconst (v := 0) hx hb dX7_readPart_73 (by decide) ?_
        refine lv_istore (lv' := [(6, .int 0), (5, .int (if 3 < (numF r_10) then 3 else numF r_10)), (4, .int r_10), (3, .int (nI k)), (0, .ref z0), (1, .ref p0), (2, .int bf)]) hx hb dX7_readPart_74 hl (by decide) rfl (fun ls hl => ?_)
        have loop76 : ∀ (n9 : Nat) (j : Nat) (kj : Nat) (fj : Int32) (pj : Int32) (nj : Nat → Int32), 3 - j < n9 → (j ≤ 3) → (k ≤ kj) → (kj ≤ n) → ∀ (H : Heap) (locs : List Loc) (ls : Array Slot), va_P g.1 vwCl [(oX7 z0 y0 (nI n) (nI kj) fj pj z1), (aB g y0 500 tp), (aI g z1 3 nj), (oX6 p0 p1 p2 p3 p4 (nI w)), (aI g p1 24 sd), (aI g p2 10 fn), (aI g p3 6 st), (aI g p4 6 me)] H → va_D A [(oX7 z0 y0 (nI n) (nI kj) fj pj z1), (aB g y0 500 tp), (aI g z1 3 nj), (oX6 p0 p1 p2 p3 p4 (nI w)), (aI g p1 24 sd), (aI g p2 10 fn), (aI g p3 6 st), (aI g p4 6 me)] → va_S A s.heap H locs → lv_has ls 7 [(0, .ref z0), (1, .ref p0), (3, .int (nI k)), (4, .int r_10), (5, .int (if 3 < (numF r_10) then 3 else numF r_10)), (6, .int (nI j))] → W p l e (he_room 6 135 0 0) s m args below meth c H locs 0 0 Q (F0 m 76 ls []) := by
          intro n9
          induction n9 with
          | zero => intro j kj fj pj nj hm9; exact absurd hm9 (Nat.not_lt_zero _)
          | succ n9 ih76 =>
            intro j kj fj pj nj hm9 hj hkj hkn H locs ls hP hD hS hl
            refine lv_iload hx hb dX7_readPart_76 (lv_at hl 5 rfl) ?_
            refine lv_iload hx hb dX7_readPart_78 (lv_at hl 4 rfl) ?_
            refine lv_icmp_ge (tgt := 116) hx hb dX7_readPart_80 (by decide) (fun c_28 => ?_) (fun c_28 => ?_)
            · refine lv_aload_n hx hb dX7_readPart_116 rfl (lv_at hl 0 rfl) ?_
              refine he_cv (wc := [(oX7 z0 y0 (nI n) (nI kj) fj pj z1), (aB g y0 500 tp)]) (wr := [(aI g z1 3 nj), (oX6 p0 p1 p2 p3 p4 (nI w)), (aI g p1 24 sd), (aI g p2 10 fn), (aI g p3 6 st), (aI g p4 6 me)]) (va_runV (As := []) (rest := []) ⟨hx, hb, hml, hown, hts⟩ (g_X7_skipBlanks l g z0 z1 y0 n kj fj pj tp (by first | assumption | decide | omega) (by first | assumption | decide | omega) H.size) (cwV 0 hts gX7_readPart_X7_skipBlanks rfl rfl rfl (by decide +kernel) ⟨Nat.le_of_ble_eq_true rfl, Nat.le_of_ble_eq_true rfl⟩) (he_preV (wc := [(oX7 z0 y0 (nI n) (nI kj) fj pj z1), (aB g y0 500 tp)]) hK hP hD hS hA hE [0, 1] rfl rfl 0 rfl rfl) rfl rfl hl.1 rfl (lv_room (Nat.le_of_ble_eq_true rfl)) dX7_readPart_117 ⟨(Nat.le_of_ble_eq_true rfl), (Nat.le_of_ble_eq_true rfl)⟩) hP hD hS hA [0, 1] [2, 3, 4, 5, 6, 7] rfl rfl rfl (by decide) (fun u_30 H locs h_31 hP hD hS => ?_)
              obtain ⟨k2_32, rfl⟩ : ∃ z, z = u_30 := ⟨_, rfl⟩
              try dsimp only at h_31
              obtain ⟨hf_33, hf_34⟩ := h_31
              have hP : va_P g.1 vwCl [(aI g z1 3 nj), (oX6 p0 p1 p2 p3 p4 (nI w)), (aI g p1 24 sd), (aI g p2 10 fn), (aI g p3 6 st), (aI g p4 6 me), (oX7 z0 y0 (nI n) (nI k2_32) fj pj z1), (aB g y0 500 tp)] H := hP
              have hD : va_D A [(aI g z1 3 nj), (oX6 p0 p1 p2 p3 p4 (nI w)), (aI g p1 24 sd), (aI g p2 10 fn), (aI g p3 6 st), (aI g p4 6 me), (oX7 z0 y0 (nI n) (nI k2_32) fj pj z1), (aB g y0 500 tp)] := hD
              have join145 : ∀ (_ : Unit), ∀ (H : Heap) (locs : List Loc) (ls : Array Slot), va_P g.1 vwCl [(aI g z1 3 nj), (oX6 p0 p1 p2 p3 p4 (nI w)), (aI g p1 24 sd), (aI g p2 10 fn), (aI g p3 6 st), (aI g p4 6 me), (oX7 z0 y0 (nI n) (nI k2_32) fj pj z1), (aB g y0 500 tp)] H → va_D A [(aI g z1 3 nj), (oX6 p0 p1 p2 p3 p4 (nI w)), (aI g p1 24 sd), (aI g p2 10 fn), (aI g p3 6 st), (aI g p4 6 me), (oX7 z0 y0 (nI n) (nI k2_32) fj pj z1), (aB g y0 500 tp)] → va_S A s.heap H locs → lv_has ls 7 [(0, .ref z0), (1, .ref p0), (3, .int (nI k)), (4, .int r_10), (5, .int (if 3 < (numF r_10) then 3 else numF r_10)), (6, .int (nI j))] → W p l e (he_room 6 135 0 0) s m args below meth c H locs 0 0 Q (F0 m 145 ls []) := by
                intro _ H locs ls hP hD hS hl
                refine lv_aload_n hx hb dX7_readPart_145 rfl (lv_at hl 0 rfl) ?_
                refine lv_iconst (v := 1) hx hb dX7_readPart_146 (by decide) ?_
                refine lv_aload_n hx hb dX7_readPart_147 rfl (lv_at hl 0 rfl) ?_
                refine va_get (v := .int (nI k2_32)) (T := TX7) (N := 6) hx hb hts inX7 hown hK hP 6 rfl rfl 2 (by decide) f32 (fun _ h9 => h9) rfl dX7_readPart_148 ?_
                refine he_ci (wc := [(oX7 z0 y0 (nI n) (nI k2_32) fj pj z1), (aB g y0 500 tp)]) (wr := [(aI g z1 3 nj), (oX6 p0 p1 p2 p3 p4 (nI w)), (aI g p1 24 sd), (aI g p2 10 fn), (aI g p3 6 st), (aI g p4 6 me)]) (va_runV (As := [.int 1, .int (nI k2_32)]) (rest := []) ⟨hx, hb, hml, hown, hts⟩ (g_X7_fail l g z0 z1 y0 n k2_32 fj pj tp 1 (nI k2_32) H.size) (cwV 2 hts gX7_readPart_X7_fail rfl rfl rfl (by decide +kernel) ⟨Nat.le_of_ble_eq_true rfl, Nat.le_of_ble_eq_true rfl⟩) (he_preV (wc := [(oX7 z0 y0 (nI n) (nI k2_32) fj pj z1), (aB g y0 500 tp)]) hK hP hD hS hA hE [6, 7] rfl rfl 6 rfl rfl) rfl rfl hl.1 rfl (lv_room (Nat.le_of_ble_eq_true rfl)) dX7_readPart_151 ⟨(Nat.le_of_ble_eq_true rfl), (Nat.le_of_ble_eq_true rfl)⟩) hP hD hS hA [6, 7] [0, 1, 2, 3, 4, 5] rfl rfl rfl (by decide) (fun r_35 u_36 H locs h_37 hP hD hS => ?_)
                subst h_37
                have hP : va_P g.1 vwCl [(aI g z1 3 nj), (oX6 p0 p1 p2 p3 p4 (nI w)), (aI g p1 24 sd), (aI g p2 10 fn), (aI g p3 6 st), (aI g p4 6 me), (oX7 z0 y0 (nI n) (nI k2_32) 1 (nI k2_32) z1), (aB g y0 500 tp)] H := hP
                have hD : va_D A [(aI g z1 3 nj), (oX6 p0 p1 p2 p3 p4 (nI w)), (aI g p1 24 sd), (aI g p2 10 fn), (aI g p3 6 st), (aI g p4 6 me), (oX7 z0 y0 (nI n) (nI k2_32) 1 (nI k2_32) z1), (aB g y0 500 tp)] := hD
                have hP := hP.sub (ws' := [(oX7 z0 y0 (nI n) (nI k2_32) 1 (nI k2_32) z1), (aB g y0 500 tp), (aI g z1 3 nj), (oX6 p0 p1 p2 p3 p4 (nI w)), (aI g p1 24 sd), (aI g p2 10 fn), (aI g p3 6 st), (aI g p4 6 me)]) [6, 7, 0, 1, 2, 3, 4, 5] rfl
                have hD := hD.sub (ws' := [(oX7 z0 y0 (nI n) (nI k2_32) 1 (nI k2_32) z1), (aB g y0 500 tp), (aI g z1 3 nj), (oX6 p0 p1 p2 p3 p4 (nI w)), (aI g p1 24 sd), (aI g p2 10 fn), (aI g p3 6 st), (aI g p4 6 me)]) [6, 7, 0, 1, 2, 3, 4, 5] (by decide) rfl
                exact he_rz hQ hx hb hr hlk hP hD hS dX7_readPart_154 (Nat.le_of_ble_eq_true rfl) (Nat.le_of_ble_eq_true rfl) rfl ((k2_32, 1, nI k2_32, nj, w, sd, fn, st, me)) (rfl) (⟨by (try dsimp only); omega, by (try dsimp only); omega, Or.inl rfl, by (try dsimp only); omega⟩)
              refine lv_aload_n hx hb dX7_readPart_120 rfl (lv_at hl 0 rfl) ?_
              refine va_get (v := .int (nI k2_32)) (T := TX7) (N := 6) hx hb hts inX7 hown hK hP 6 rfl rfl 2 (by decide) f32 (fun _ h9 => h9) rfl dX7_readPart_121 ?_
              refine lv_aload_n hx hb dX7_readPart_124 rfl (lv_at hl 0 rfl) ?_
              refine va_get (v := .int (nI n)) (T := TX7) (N := 6) hx hb hts inX7 hown hK hP 6 rfl rfl 1 (by decide) f29 (fun _ h9 => h9) rfl dX7_readPart_125 ?_
              refine lv_icmp_ge (tgt := 145) hx hb dX7_readPart_128 (by decide) (fun c_38 => ?_) (fun c_38 => ?_)
              · have k_39 : n ≤ k2_32 := (he_cle (a := n) (b := k2_32) rfl rfl (by omega) (by omega)).mp c_38
                exact join145 ()  _ _ _ hP hD hS (lv_sub hl [0, 1, 2, 3, 4, 5] rfl)
              · have k_40 : ¬ (n ≤ k2_32) := fun h9 => c_38 ((he_cle (a := n) (b := k2_32) rfl rfl (by omega) (by omega)).mpr h9)
                refine lv_aload_n hx hb dX7_readPart_131 rfl (lv_at hl 0 rfl) ?_
                refine va_get (v := .ref y0) (T := TX7) (N := 6) hx hb hts inX7 hown hK hP 6 rfl rfl 0 (by decide) f9 (fun _ h9 => h9) rfl dX7_readPart_132 ?_
                refine lv_aload_n hx hb dX7_readPart_135 rfl (lv_at hl 0 rfl) ?_
                refine va_get (v := .int (nI k2_32)) (T := TX7) (N := 6) hx hb hts inX7 hown hK hP 6 rfl rfl 2 (by decide) f32 (fun _ h9 => h9) rfl dX7_readPart_136 ?_
                refine he_bald hx hb hK hP 7 rfl (k2_32) rfl (by first | assumption | decide | omega) (by first | decide | assumption) (tp k2_32) rfl dX7_readPart_139 ?_
                refine lv_bipush (v := 59) hx hb dX7_readPart_140 (by decide) ?_
                refine lv_icmp_eq (tgt := 155) hx hb dX7_readPart_142 (by decide) (fun c_41 => ?_) (fun c_41 => ?_)
                · refine lv_aload_n hx hb dX7_readPart_155 rfl (lv_at hl 0 rfl) ?_
                  refine lv_dup hx hb dX7_readPart_156 rfl ?_
                  refine va_get (v := .int (nI k2_32)) (T := TX7) (N := 6) hx hb hts inX7 hown hK hP 6 rfl rfl 2 (by decide) f32 (fun _ h9 => h9) rfl dX7_readPart_157 ?_
                  refine lv_iconst (v := 1) hx hb dX7_readPart_160 (by decide) ?_
                  refine lv_iadd hx hb dX7_readPart_161 ?_
                  refine he_top (nI (k2_32 + 1)) (nI_add k2_32 1) ?_
                  refine va_put (v := .int (nI (k2_32 + 1))) (ty := .int) (T := TX7) (N := 6) hx hb hts inX7 tyX7 tyX7_ok nmX7 hown hK hP hD hS 6 rfl rfl 2 (by decide) f32 (fun _ h9 => h9) rfl (by decide +kernel) rfl rfl (Nat.le_of_ble_eq_true rfl) dX7_readPart_162 (fun H locs hP hD hS => ?_)
                  have hP : va_P g.1 vwCl [(aI g z1 3 nj), (oX6 p0 p1 p2 p3 p4 (nI w)), (aI g p1 24 sd), (aI g p2 10 fn), (aI g p3 6 st), (aI g p4 6 me), (oX7 z0 y0 (nI n) (nI (k2_32 + 1)) fj pj z1), (aB g y0 500 tp)] H := hP
                  have hD : va_D A [(aI g z1 3 nj), (oX6 p0 p1 p2 p3 p4 (nI w)), (aI g p1 24 sd), (aI g p2 10 fn), (aI g p3 6 st), (aI g p4 6 me), (oX7 z0 y0 (nI n) (nI (k2_32 + 1)) fj pj z1), (aB g y0 500 tp)] := hD
                  refine lv_aload_n hx hb dX7_readPart_165 rfl (lv_at hl 1 rfl) ?_
                  refine lv_iload hx hb dX7_readPart_166 (lv_at hl 3 rfl) ?_
                  refine lv_aload_n hx hb dX7_readPart_168 rfl (lv_at hl 0 rfl) ?_
                  refine va_get (v := .ref z1) (T := TX7) (N := 6) hx hb hts inX7 hown hK hP 6 rfl rfl 5 (by decide) f19 (fun _ h9 => h9) rfl dX7_readPart_169 ?_
                  refine he_cv (wc := [(oX6 p0 p1 p2 p3 p4 (nI w)), (aI g p1 24 sd), (aI g p2 10 fn), (aI g p3 6 st), (aI g p4 6 me), (aI g z1 3 nj)]) (wr := [(oX7 z0 y0 (nI n) (nI (k2_32 + 1)) fj pj z1), (aB g y0 500 tp)]) (va_runU (As := [.int r_10, .ref z1]) (rest := []) ⟨hx, hb, hml, hown, hts⟩ (g_X6_store l g p0 p1 p2 p3 p4 w sd fn st me z1 nj r_10 (by first | assumption | decide | omega) H.size) (va_cwA 2 hts gX7_readPart_X6_store_u83X6 rfl rfl rfl dc83 (by decide +kernel) ⟨Nat.le_of_ble_eq_true rfl, Nat.le_of_ble_eq_true rfl⟩) (he_preV (wc := [(oX6 p0 p1 p2 p3 p4 (nI w)), (aI g p1 24 sd), (aI g p2 10 fn), (aI g p3 6 st), (aI g p4 6 me), (aI g z1 3 nj)]) hK hP hD hS hA hE [1, 2, 3, 4, 5, 0] rfl rfl 1 rfl rfl) rfl rfl hl.1 rfl (lv_room (Nat.le_of_ble_eq_true rfl)) dX7_readPart_172 ⟨(Nat.le_of_ble_eq_true rfl), (Nat.le_of_ble_eq_true rfl)⟩) hP hD hS hA [1, 2, 3, 4, 5, 0] [6, 7] rfl rfl rfl (by decide) (fun u_43 H locs h_44 hP hD hS => ?_)
                  obtain ⟨uw_45, ud_46, un_47, ut_48, um_49⟩ := u_43
                  try dsimp only at h_44
                  have hf_50 := h_44
                  have hP : va_P g.1 vwCl [(oX7 z0 y0 (nI n) (nI (k2_32 + 1)) fj pj z1), (aB g y0 500 tp), (oX6 p0 p1 p2 p3 p4 (nI uw_45)), (aI g p1 24 ud_46), (aI g p2 10 un_47), (aI g p3 6 ut_48), (aI g p4 6 um_49), (aI g z1 3 nj)] H := hP
                  have hD : va_D A [(oX7 z0 y0 (nI n) (nI (k2_32 + 1)) fj pj z1), (aB g y0 500 tp), (oX6 p0 p1 p2 p3 p4 (nI uw_45)), (aI g p1 24 ud_46), (aI g p2 10 un_47), (aI g p3 6 ut_48), (aI g p4 6 um_49), (aI g z1 3 nj)] := hD
                  refine lv_iconst (v := 1) hx hb dX7_readPart_175 (by decide) ?_
                  have hP := hP.sub (ws' := [(oX7 z0 y0 (nI n) (nI (k2_32 + 1)) fj pj z1), (aB g y0 500 tp), (aI g z1 3 nj), (oX6 p0 p1 p2 p3 p4 (nI uw_45)), (aI g p1 24 ud_46), (aI g p2 10 un_47), (aI g p3 6 ut_48), (aI g p4 6 um_49)]) [0, 1, 7, 2, 3, 4, 5, 6] rfl
                  have hD := hD.sub (ws' := [(oX7 z0 y0 (nI n) (nI (k2_32 + 1)) fj pj z1), (aB g y0 500 tp), (aI g z1 3 nj), (oX6 p0 p1 p2 p3 p4 (nI uw_45)), (aI g p1 24 ud_46), (aI g p2 10 un_47), (aI g p3 6 ut_48), (aI g p4 6 um_49)]) [0, 1, 7, 2, 3, 4, 5, 6] (by decide) rfl
                  exact he_rz hQ hx hb hr hlk hP hD hS dX7_readPart_176 (Nat.le_of_ble_eq_true rfl) (Nat.le_of_ble_eq_true rfl) rfl ((k2_32 + 1, fj, pj, nj, uw_45, ud_46, un_47, ut_48, um_49)) (rfl) (⟨by (try dsimp only); omega, by (try dsimp only); omega, Or.inr rfl, by (try dsimp only); omega⟩)
                · exact join145 ()  _ _ _ hP hD hS (lv_sub hl [0, 1, 2, 3, 4, 5] rfl)
            · have hj3 : j < 3 := min3 (by omega) c_28
              refine lv_aload_n hx hb dX7_readPart_83 rfl (lv_at hl 0 rfl) ?_
              refine lv_iload hx hb dX7_readPart_84 (lv_at hl 5 rfl) ?_
              refine lv_aload_n hx hb dX7_readPart_86 rfl (lv_at hl 1 rfl) ?_
              refine lv_iload hx hb dX7_readPart_87 (lv_at hl 3 rfl) ?_
              refine lv_iload hx hb dX7_readPart_89 (lv_at hl 5 rfl) ?_
              refine he_ci (wc := [(oX6 p0 p1 p2 p3 p4 (nI w))]) (wr := [(oX7 z0 y0 (nI n) (nI kj) fj pj z1), (aB g y0 500 tp), (aI g z1 3 nj), (aI g p1 24 sd), (aI g p2 10 fn), (aI g p3 6 st), (aI g p4 6 me)]) (va_runU (As := [.int r_10, .int (nI j)]) (rest := [.int (nI j), .ref z0]) ⟨hx, hb, hml, hown, hts⟩ (g_X6_low l g p0 p1 p2 p3 p4 (nI w) r_10 (nI j) H.size) (va_cwA 2 hts gX7_readPart_X6_low_u73X6 rfl rfl rfl dc73 (by decide +kernel) ⟨Nat.le_of_ble_eq_true rfl, Nat.le_of_ble_eq_true rfl⟩) (he_preV (wc := [(oX6 p0 p1 p2 p3 p4 (nI w))]) hK hP hD hS hA hE [3] rfl rfl 3 rfl rfl) rfl rfl hl.1 rfl (lv_room (Nat.le_of_ble_eq_true rfl)) dX7_readPart_91 ⟨(Nat.le_of_ble_eq_true rfl), (Nat.le_of_ble_eq_true rfl)⟩) hP hD hS hA [3] [0, 1, 2, 4, 5, 6, 7] rfl rfl rfl (by decide) (fun r_51 u_52 H locs h_53 hP hD hS => ?_)
              have hP : va_P g.1 vwCl [(oX7 z0 y0 (nI n) (nI kj) fj pj z1), (aB g y0 500 tp), (aI g z1 3 nj), (aI g p1 24 sd), (aI g p2 10 fn), (aI g p3 6 st), (aI g p4 6 me), (oX6 p0 p1 p2 p3 p4 (nI w))] H := hP
              have hD : va_D A [(oX7 z0 y0 (nI n) (nI kj) fj pj z1), (aB g y0 500 tp), (aI g z1 3 nj), (aI g p1 24 sd), (aI g p2 10 fn), (aI g p3 6 st), (aI g p4 6 me), (oX6 p0 p1 p2 p3 p4 (nI w))] := hD
              refine lv_aload_n hx hb dX7_readPart_94 rfl (lv_at hl 1 rfl) ?_
              refine lv_iload hx hb dX7_readPart_95 (lv_at hl 3 rfl) ?_
              refine lv_iload hx hb dX7_readPart_97 (lv_at hl 5 rfl) ?_
              refine he_ci (wc := [(oX6 p0 p1 p2 p3 p4 (nI w))]) (wr := [(oX7 z0 y0 (nI n) (nI kj) fj pj z1), (aB g y0 500 tp), (aI g z1 3 nj), (aI g p1 24 sd), (aI g p2 10 fn), (aI g p3 6 st), (aI g p4 6 me)]) (va_runU (As := [.int r_10, .int (nI j)]) (rest := [.int r_51, .int (nI j), .ref z0]) ⟨hx, hb, hml, hown, hts⟩ (g_X6_high l g p0 p1 p2 p3 p4 (nI w) r_10 (nI j) H.size) (va_cwA 2 hts gX7_readPart_X6_high_u76X6 rfl rfl rfl dc76 (by decide +kernel) ⟨Nat.le_of_ble_eq_true rfl, Nat.le_of_ble_eq_true rfl⟩) (he_preV (wc := [(oX6 p0 p1 p2 p3 p4 (nI w))]) hK hP hD hS hA hE [7] rfl rfl 7 rfl rfl) rfl rfl hl.1 rfl (lv_room (Nat.le_of_ble_eq_true rfl)) dX7_readPart_99 ⟨(Nat.le_of_ble_eq_true rfl), (Nat.le_of_ble_eq_true rfl)⟩) hP hD hS hA [7] [0, 1, 2, 3, 4, 5, 6] rfl rfl rfl (by decide) (fun r_54 u_55 H locs h_56 hP hD hS => ?_)
              have hP : va_P g.1 vwCl [(oX7 z0 y0 (nI n) (nI kj) fj pj z1), (aB g y0 500 tp), (aI g z1 3 nj), (aI g p1 24 sd), (aI g p2 10 fn), (aI g p3 6 st), (aI g p4 6 me), (oX6 p0 p1 p2 p3 p4 (nI w))] H := hP
              have hD : va_D A [(oX7 z0 y0 (nI n) (nI kj) fj pj z1), (aB g y0 500 tp), (aI g z1 3 nj), (aI g p1 24 sd), (aI g p2 10 fn), (aI g p3 6 st), (aI g p4 6 me), (oX6 p0 p1 p2 p3 p4 (nI w))] := hD
              refine he_ci (wc := [(oX7 z0 y0 (nI n) (nI kj) fj pj z1), (aB g y0 500 tp), (aI g z1 3 nj)]) (wr := [(aI g p1 24 sd), (aI g p2 10 fn), (aI g p3 6 st), (aI g p4 6 me), (oX6 p0 p1 p2 p3 p4 (nI w))]) (va_runV (As := [.int (nI j), .int r_51, .int r_54]) (rest := []) ⟨hx, hb, hml, hown, hts⟩ (g_X7_readNumber l g z0 z1 y0 n kj fj pj tp nj j r_51 r_54 (by first | assumption | decide | omega) (by first | assumption | decide | omega) (by first | assumption | decide | omega) H.size) (cwV 3 hts gX7_readPart_X7_readNumber rfl rfl rfl (by decide +kernel) ⟨Nat.le_of_ble_eq_true rfl, Nat.le_of_ble_eq_true rfl⟩) (he_preV (wc := [(oX7 z0 y0 (nI n) (nI kj) fj pj z1), (aB g y0 500 tp), (aI g z1 3 nj)]) hK hP hD hS hA hE [0, 1, 2] rfl rfl 0 rfl rfl) rfl rfl hl.1 rfl (lv_room (Nat.le_of_ble_eq_true rfl)) dX7_readPart_102 ⟨(Nat.le_of_ble_eq_true rfl), (Nat.le_of_ble_eq_true rfl)⟩) hP hD hS hA [0, 1, 2] [3, 4, 5, 6, 7] rfl rfl rfl (by decide) (fun r_57 u_58 H locs h_59 hP hD hS => ?_)
              obtain ⟨k2_60, fb_61, pb_62, nv_63⟩ := u_58
              try dsimp only at h_59
              obtain ⟨hf_64, hf_65, hf_66⟩ := h_59
              have hP : va_P g.1 vwCl [(aI g p1 24 sd), (aI g p2 10 fn), (aI g p3 6 st), (aI g p4 6 me), (oX6 p0 p1 p2 p3 p4 (nI w)), (oX7 z0 y0 (nI n) (nI k2_60) fb_61 pb_62 z1), (aB g y0 500 tp), (aI g z1 3 nv_63)] H := hP
              have hD : va_D A [(aI g p1 24 sd), (aI g p2 10 fn), (aI g p3 6 st), (aI g p4 6 me), (oX6 p0 p1 p2 p3 p4 (nI w)), (oX7 z0 y0 (nI n) (nI k2_60) fb_61 pb_62 z1), (aB g y0 500 tp), (aI g z1 3 nv_63)] := hD
              refine lv_if_ne (tgt := 110) hx hb dX7_readPart_105 (by decide) (fun c_67 => ?_) (fun c_67 => ?_)
              · refine lv_iinc (v := nI (j + 1)) (lv' := [(6, .int (nI (j + 1))), (0, .ref z0), (1, .ref p0), (3, .int (nI k)), (4, .int r_10), (5, .int (if 3 < (numF r_10) then 3 else numF r_10))]) hx hb dX7_readPart_110 hl (k := 5) rfl (nI_1 j) (by decide) rfl (fun ls hl => ?_)
                refine lv_goto (tgt := 76) hx hb dX7_readPart_113 (by decide) ?_
                exact ih76 (j + 1) k2_60 fb_61 pb_62 nv_63 (by omega) (by omega) (by omega) (by omega) _ _ _ (hP.sub [5, 6, 7, 4, 0, 1, 2, 3] rfl) (hD.sub [5, 6, 7, 4, 0, 1, 2, 3] (by decide) rfl) hS (lv_sub hl [1, 2, 3, 4, 5, 0] rfl)
              · refine lv_iconst (v := 0) hx hb dX7_readPart_108 (by decide) ?_
                have hP := hP.sub (ws' := [(oX7 z0 y0 (nI n) (nI k2_60) fb_61 pb_62 z1), (aB g y0 500 tp), (aI g z1 3 nv_63), (oX6 p0 p1 p2 p3 p4 (nI w)), (aI g p1 24 sd), (aI g p2 10 fn), (aI g p3 6 st), (aI g p4 6 me)]) [5, 6, 7, 4, 0, 1, 2, 3] rfl
                have hD := hD.sub (ws' := [(oX7 z0 y0 (nI n) (nI k2_60) fb_61 pb_62 z1), (aB g y0 500 tp), (aI g z1 3 nv_63), (oX6 p0 p1 p2 p3 p4 (nI w)), (aI g p1 24 sd), (aI g p2 10 fn), (aI g p3 6 st), (aI g p4 6 me)]) [5, 6, 7, 4, 0, 1, 2, 3] (by decide) rfl
                exact he_rz hQ hx hb hr hlk hP hD hS dX7_readPart_109 (Nat.le_of_ble_eq_true rfl) (Nat.le_of_ble_eq_true rfl) rfl ((k2_60, fb_61, pb_62, nv_63, w, sd, fn, st, me)) (rfl) (⟨by (try dsimp only); omega, by (try dsimp only); omega, Or.inl rfl, by (try dsimp only); omega⟩)
        exact loop76 ((3 - 0) + 1) 0 k2_4 fa pl nu (Nat.lt_succ_self _) (Nat.zero_le _) (by omega) (by omega) _ _ _ (hP.sub [5, 6, 0, 7, 1, 2, 3, 4] rfl) (hD.sub [5, 6, 0, 7, 1, 2, 3, 4] (by decide) rfl) hS (lv_sub hl [4, 5, 3, 2, 1, 0] rfl)
      · exact join50 ()  _ _ _ (hP.sub [0, 1, 2, 3, 4, 7, 5, 6] rfl) (hD.sub [0, 1, 2, 3, 4, 7, 5, 6] (by decide) rfl) hS (lv_sub hl [0, 1, 2, 3, 4] rfl)
  · refine lv_aload_n hx hb dX7_readPart_26 rfl (lv_at hl 2 rfl) ?_
    refine lv_iconst (v := 1) hx hb dX7_readPart_27 (by decide) ?_
    refine lv_iload_n hx hb dX7_readPart_28 rfl (lv_at hl 1 rfl) ?_
    refine he_ci (wc := [(oX7 z0 y0 (nI n) (nI k2_4) fa pl z1), (aB g y0 500 tp)]) (wr := [(aI g z1 3 nu), (aI g p1 24 sd), (aI g p2 10 fn), (aI g p3 6 st), (aI g p4 6 me), (oX6 p0 p1 p2 p3 p4 (nI w))]) (va_runV (As := [.int 1, .int (nI k)]) (rest := []) ⟨hx, hb, hml, hown, hts⟩ (g_X7_fail l g z0 z1 y0 n k2_4 fa pl tp 1 (nI k) H.size) (cwV 2 hts gX7_readPart_X7_fail rfl rfl rfl (by decide +kernel) ⟨Nat.le_of_ble_eq_true rfl, Nat.le_of_ble_eq_true rfl⟩) (he_preV (wc := [(oX7 z0 y0 (nI n) (nI k2_4) fa pl z1), (aB g y0 500 tp)]) hK hP hD hS hA hE [6, 7] rfl rfl 6 rfl rfl) rfl rfl hl.1 rfl (lv_room (Nat.le_of_ble_eq_true rfl)) dX7_readPart_29 ⟨(Nat.le_of_ble_eq_true rfl), (Nat.le_of_ble_eq_true rfl)⟩) hP hD hS hA [6, 7] [0, 1, 2, 3, 4, 5] rfl rfl rfl (by decide) (fun r_68 u_69 H locs h_70 hP hD hS => ?_)
    subst h_70
    have hP : va_P g.1 vwCl [(aI g z1 3 nu), (aI g p1 24 sd), (aI g p2 10 fn), (aI g p3 6 st), (aI g p4 6 me), (oX6 p0 p1 p2 p3 p4 (nI w)), (oX7 z0 y0 (nI n) (nI k2_4) 1 (nI k) z1), (aB g y0 500 tp)] H := hP
    have hD : va_D A [(aI g z1 3 nu), (aI g p1 24 sd), (aI g p2 10 fn), (aI g p3 6 st), (aI g p4 6 me), (oX6 p0 p1 p2 p3 p4 (nI w)), (oX7 z0 y0 (nI n) (nI k2_4) 1 (nI k) z1), (aB g y0 500 tp)] := hD
    have hP := hP.sub (ws' := [(oX7 z0 y0 (nI n) (nI k2_4) 1 (nI k) z1), (aB g y0 500 tp), (aI g z1 3 nu), (oX6 p0 p1 p2 p3 p4 (nI w)), (aI g p1 24 sd), (aI g p2 10 fn), (aI g p3 6 st), (aI g p4 6 me)]) [6, 7, 0, 5, 1, 2, 3, 4] rfl
    have hD := hD.sub (ws' := [(oX7 z0 y0 (nI n) (nI k2_4) 1 (nI k) z1), (aB g y0 500 tp), (aI g z1 3 nu), (oX6 p0 p1 p2 p3 p4 (nI w)), (aI g p1 24 sd), (aI g p2 10 fn), (aI g p3 6 st), (aI g p4 6 me)]) [6, 7, 0, 5, 1, 2, 3, 4] (by decide) rfl
    exact he_rz hQ hx hb hr hlk hP hD hS dX7_readPart_32 (Nat.le_of_ble_eq_true rfl) (Nat.le_of_ble_eq_true rfl) rfl ((k2_4, 1, nI k, nu, w, sd, fn, st, me)) (rfl) (⟨by (try dsimp only); omega, by (try dsimp only); omega, Or.inl rfl, by (try dsimp only); omega⟩)
set_option maxHeartbeats 4000000 in
set_option maxRecDepth 100000 in
theorem g_X7_read6 (l : Launch) (g : he_G) (z0 : Nat) (z1 : Nat) (y0 : Nat) (n : Nat) (y1 : Nat) (n1 : Int32) (at1 : Int32) (fa : Int32) (pl : Int32) (tp : Nat → Int32) (nu : Nat → Int32) (p0 : Nat) (p1 : Nat) (p2 : Nat) (p3 : Nat) (p4 : Nat) (w : Nat) (sd : Nat → Int32) (fn : Nat → Int32) (st : Nat → Int32) (me : Nat → Int32) (hn : n ≤ 500) (hw6 : w ≤ 6) : he_I l yX7_read wsX7_read 7 161 0 0 g [.ref z0, .ref y0, .int (nI n), .ref p0] [(oX7 z0 y1 n1 at1 fa pl z1), (aB g y0 500 tp), (aI g z1 3 nu), (oX6 p0 p1 p2 p3 p4 (nI w)), (aI g p1 24 sd), (aI g p2 10 fn), (aI g p3 6 st), (aI g p4 6 me)] (fun (r : Int32) (u : Nat × Int32 × Int32 × (Nat → Int32) × Nat × (Nat → Int32) × (Nat → Int32) × (Nat → Int32) × (Nat → Int32)) => r = u.2.1 ∧ u.1 ≤ n ∧ u.2.2.2.2.1 ≤ 6) (fun (u : Nat × Int32 × Int32 × (Nat → Int32) × Nat × (Nat → Int32) × (Nat → Int32) × (Nat → Int32) × (Nat → Int32)) => [(oX7 z0 y0 (nI n) (nI u.1) u.2.1 u.2.2.1 z1), (aB g y0 500 tp), (aI g z1 3 u.2.2.2.1), (oX6 p0 p1 p2 p3 p4 (nI u.2.2.2.2.1)), (aI g p1 24 u.2.2.2.2.2.1), (aI g p2 10 u.2.2.2.2.2.2.1), (aI g p3 6 u.2.2.2.2.2.2.2.1), (aI g p4 6 u.2.2.2.2.2.2.2.2)]) := by
  refine he_begin (l := l) (g := g) (y := yX7_read) (wl := wsX7_read) (fr := 7) (lo := 161) (mc := 0) (ms := 0) (av := [.ref z0, .ref y0, .int (nI n), .ref p0]) (ws := [(oX7 z0 y1 n1 at1 fa pl z1), (aB g y0 500 tp), (aI g z1 3 nu), (oX6 p0 p1 p2 p3 p4 (nI w)), (aI g p1 24 sd), (aI g p2 10 fn), (aI g p3 6 st), (aI g p4 6 me)]) (cc := cX7_read) (maxL := 5) (ret := (some .int)) (fun A => va_Qi (fun (r : Int32) (u : Nat × Int32 × Int32 × (Nat → Int32) × Nat × (Nat → Int32) × (Nat → Int32) × (Nat → Int32) × (Nat → Int32)) => r = u.2.1 ∧ u.1 ≤ n ∧ u.2.2.2.2.1 ≤ 6) (fun u t => he_post g A ((fun (u : Nat × Int32 × Int32 × (Nat → Int32) × Nat × (Nat → Int32) × (Nat → Int32) × (Nat → Int32) × (Nat → Int32)) => [(oX7 z0 y0 (nI n) (nI u.1) u.2.1 u.2.2.1 z1), (aB g y0 500 tp), (aI g z1 3 u.2.2.2.1), (oX6 p0 p1 p2 p3 p4 (nI u.2.2.2.2.1)), (aI g p1 24 u.2.2.2.2.2.1), (aI g p2 10 u.2.2.2.2.2.2.1), (aI g p3 6 u.2.2.2.2.2.2.2.1), (aI g p4 6 u.2.2.2.2.2.2.2.2)]) u) t) A) (by decide) rfl (Nat.le_of_ble_eq_true rfl) ?_
  intro p e s m args below meth c A ls H locs Q hQ hB
  obtain ⟨hx, hb, hr, hml, hown, hts, hlk, hin, hP, hK, hD, hS, hA, hE, hl⟩ := hB
  have hl : lv_has ls 5 [(0, .ref z0), (1, .ref y0), (2, .int (nI n)), (3, .ref p0)] := hl
  have f9 := hts (.fieldLink RX7 9 "HiredEnemy$Reader" "bytes" "[B") (iwoX7_read (k := 0) rfl)
  have inX7 : ∀ w ∈ wsX70, w ∈ wsX7_read := innX7_read_X7
  have ml23 := hts (.methodLink RX7 23 Lib.Math.min.name) (iwoX7_read (k := 1) rfl)
  have msmin := hts (.static Lib.Math.min.name) (iwoX7_read (k := 2) rfl)
  have mi := hts (.initialized "java/lang/Math") (iwoX7_read (k := 3) rfl)
  have mcmin := hts (.code Lib.Math.min.name Lib.Math.min.code 2 (some .int)) (by decide +kernel)
  have f29 := hts (.fieldLink RX7 29 "HiredEnemy$Reader" "length" "I") (iwoX7_read (k := 4) rfl)
  have f32 := hts (.fieldLink RX7 32 "HiredEnemy$Reader" "at" "I") (iwoX7_read (k := 5) rfl)
  have f35 := hts (.fieldLink RX7 35 "HiredEnemy$Reader" "fault" "I") (iwoX7_read (k := 6) rfl)
  have f15 := hts (.fieldLink RX7 15 "HiredEnemy$Reader" "place" "I") (iwoX7_read (k := 7) rfl)
  have dc38 := hE.decl ⟨RX9, "mostParts", "()I"⟩ (by decide +kernel)
  refine lv_aload_n hx hb dX7_read_0 rfl (lv_at hl 0 rfl) ?_
  refine lv_aload_n hx hb dX7_read_1 rfl (lv_at hl 1 rfl) ?_
  refine va_put (v := .ref y0) (ty := tyX7 0) (T := TX7) (N := 6) hx hb hts inX7 tyX7 tyX7_ok nmX7 hown hK hP hD hS 0 rfl rfl 0 (by decide) f9 (fun _ h9 => h9) rfl (by decide +kernel) rfl rfl (Nat.le_of_ble_eq_true rfl) dX7_read_2 (fun H locs hP hD hS => ?_)
  have hP : va_P g.1 vwCl [(oX7 z0 y0 n1 at1 fa pl z1), (aB g y0 500 tp), (aI g z1 3 nu), (oX6 p0 p1 p2 p3 p4 (nI w)), (aI g p1 24 sd), (aI g p2 10 fn), (aI g p3 6 st), (aI g p4 6 me)] H := hP
  have hD : va_D A [(oX7 z0 y0 n1 at1 fa pl z1), (aB g y0 500 tp), (aI g z1 3 nu), (oX6 p0 p1 p2 p3 p4 (nI w)), (aI g p1 24 sd), (aI g p2 10 fn), (aI g p3 6 st), (aI g p4 6 me)] := hD
  refine lv_aload_n hx hb dX7_read_5 rfl (lv_at hl 0 rfl) ?_
  refine lv_iload_n hx hb dX7_read_6 rfl (lv_at hl 2 rfl) ?_
  refine lv_aload_n hx hb dX7_read_7 rfl (lv_at hl 1 rfl) ?_
  refine va_alen (v := 500) hx hb hK hP 1 0 rfl rfl rfl dX7_read_8 ?_
  refine va_mmin hx hb (by rw [hml]; exact hl.1.symm) hown ml23 msmin mi mcmin (by decide) (Nat.le_of_ble_eq_true rfl) (Nat.le_of_ble_eq_true rfl) (Nat.le_of_ble_eq_true rfl) dX7_read_9 ?_
  refine he_top (nI n) (he_min500 hn) ?_
  refine va_put (v := .int (nI n)) (ty := .int) (T := TX7) (N := 6) hx hb hts inX7 tyX7 tyX7_ok nmX7 hown hK hP hD hS 0 rfl rfl 1 (by decide) f29 (fun _ h9 => h9) rfl (by decide +kernel) rfl rfl (Nat.le_of_ble_eq_true rfl) dX7_read_12 (fun H locs hP hD hS => ?_)
  have hP : va_P g.1 vwCl [(oX7 z0 y0 (nI n) at1 fa pl z1), (aB g y0 500 tp), (aI g z1 3 nu), (oX6 p0 p1 p2 p3 p4 (nI w)), (aI g p1 24 sd), (aI g p2 10 fn), (aI g p3 6 st), (aI g p4 6 me)] H := hP
  have hD : va_D A [(oX7 z0 y0 (nI n) at1 fa pl z1), (aB g y0 500 tp), (aI g z1 3 nu), (oX6 p0 p1 p2 p3 p4 (nI w)), (aI g p1 24 sd), (aI g p2 10 fn), (aI g p3 6 st), (aI g p4 6 me)] := hD
  refine lv_aload_n hx hb dX7_read_15 rfl (lv_at hl 0 rfl) ?_
  refine lv_iconst (v := 0) hx hb dX7_read_16 (by decide) ?_
  refine va_put (v := .int 0) (ty := .int) (T := TX7) (N := 6) hx hb hts inX7 tyX7 tyX7_ok nmX7 hown hK hP hD hS 0 rfl rfl 2 (by decide) f32 (fun _ h9 => h9) rfl (by decide +kernel) rfl rfl (Nat.le_of_ble_eq_true rfl) dX7_read_17 (fun H locs hP hD hS => ?_)
  have hP : va_P g.1 vwCl [(oX7 z0 y0 (nI n) 0 fa pl z1), (aB g y0 500 tp), (aI g z1 3 nu), (oX6 p0 p1 p2 p3 p4 (nI w)), (aI g p1 24 sd), (aI g p2 10 fn), (aI g p3 6 st), (aI g p4 6 me)] H := hP
  have hD : va_D A [(oX7 z0 y0 (nI n) 0 fa pl z1), (aB g y0 500 tp), (aI g z1 3 nu), (oX6 p0 p1 p2 p3 p4 (nI w)), (aI g p1 24 sd), (aI g p2 10 fn), (aI g p3 6 st), (aI g p4 6 me)] := hD
  refine lv_aload_n hx hb dX7_read_20 rfl (lv_at hl 0 rfl) ?_
  refine lv_iconst (v := 0) hx hb dX7_read_21 (by decide) ?_
  refine va_put (v := .int 0) (ty := .int) (T := TX7) (N := 6) hx hb hts inX7 tyX7 tyX7_ok nmX7 hown hK hP hD hS 0 rfl rfl 3 (by decide) f35 (fun _ h9 => h9) rfl (by decide +kernel) rfl rfl (Nat.le_of_ble_eq_true rfl) dX7_read_22 (fun H locs hP hD hS => ?_)
  have hP : va_P g.1 vwCl [(oX7 z0 y0 (nI n) 0 0 pl z1), (aB g y0 500 tp), (aI g z1 3 nu), (oX6 p0 p1 p2 p3 p4 (nI w)), (aI g p1 24 sd), (aI g p2 10 fn), (aI g p3 6 st), (aI g p4 6 me)] H := hP
  have hD : va_D A [(oX7 z0 y0 (nI n) 0 0 pl z1), (aB g y0 500 tp), (aI g z1 3 nu), (oX6 p0 p1 p2 p3 p4 (nI w)), (aI g p1 24 sd), (aI g p2 10 fn), (aI g p3 6 st), (aI g p4 6 me)] := hD
  refine lv_aload_n hx hb dX7_read_25 rfl (lv_at hl 0 rfl) ?_
  refine lv_iconst (v := (-1)) hx hb dX7_read_26 (by decide) ?_
  refine va_put (v := .int (-1)) (ty := .int) (T := TX7) (N := 6) hx hb hts inX7 tyX7 tyX7_ok nmX7 hown hK hP hD hS 0 rfl rfl 4 (by decide) f15 (fun _ h9 => h9) rfl (by decide +kernel) rfl rfl (Nat.le_of_ble_eq_true rfl) dX7_read_27 (fun H locs hP hD hS => ?_)
  have hP : va_P g.1 vwCl [(oX7 z0 y0 (nI n) 0 0 (-1) z1), (aB g y0 500 tp), (aI g z1 3 nu), (oX6 p0 p1 p2 p3 p4 (nI w)), (aI g p1 24 sd), (aI g p2 10 fn), (aI g p3 6 st), (aI g p4 6 me)] H := hP
  have hD : va_D A [(oX7 z0 y0 (nI n) 0 0 (-1) z1), (aB g y0 500 tp), (aI g z1 3 nu), (oX6 p0 p1 p2 p3 p4 (nI w)), (aI g p1 24 sd), (aI g p2 10 fn), (aI g p3 6 st), (aI g p4 6 me)] := hD
  refine lv_iconst (v := 0) hx hb dX7_read_30 (by decide) ?_
  refine lv_istore (lv' := [(4, .int 0), (0, .ref z0), (1, .ref y0), (2, .int (nI n)), (3, .ref p0)]) hx hb dX7_read_31 hl (by decide) rfl (fun ls hl => ?_)
  have loop33 : ∀ (n9 : Nat) (j : Nat) (kj : Nat) (fj : Int32) (pj : Int32) (nj : Nat → Int32) (wj : Nat) (sj : Nat → Int32) (fj2 : Nat → Int32) (tj : Nat → Int32) (mj : Nat → Int32), 61 - j < n9 → (j ≤ 61) → (kj ≤ n) → (wj ≤ 6) → ∀ (H : Heap) (locs : List Loc) (ls : Array Slot), va_P g.1 vwCl [(oX7 z0 y0 (nI n) (nI kj) fj pj z1), (aB g y0 500 tp), (aI g z1 3 nj), (oX6 p0 p1 p2 p3 p4 (nI wj)), (aI g p1 24 sj), (aI g p2 10 fj2), (aI g p3 6 tj), (aI g p4 6 mj)] H → va_D A [(oX7 z0 y0 (nI n) (nI kj) fj pj z1), (aB g y0 500 tp), (aI g z1 3 nj), (oX6 p0 p1 p2 p3 p4 (nI wj)), (aI g p1 24 sj), (aI g p2 10 fj2), (aI g p3 6 tj), (aI g p4 6 mj)] → va_S A s.heap H locs → lv_has ls 5 [(0, .ref z0), (3, .ref p0), (4, .int (nI j))] → W p l e (he_room 7 161 0 0) s m args below meth c H locs 0 0 Q (F0 m 33 ls []) := by
    intro n9
    induction n9 with
    | zero => intro j kj fj pj nj wj sj fj2 tj mj hm9; exact absurd hm9 (Nat.not_lt_zero _)
    | succ n9 ih33 =>
      intro j kj fj pj nj wj sj fj2 tj mj hm9 hj hkn hwj H locs ls hP hD hS hl
      refine lv_iload hx hb dX7_read_33 (lv_at hl 2 rfl) ?_
      refine lv_aload_n hx hb dX7_read_35 rfl (lv_at hl 1 rfl) ?_
      refine he_ci (wc := [(oX6 p0 p1 p2 p3 p4 (nI wj))]) (wr := [(oX7 z0 y0 (nI n) (nI kj) fj pj z1), (aB g y0 500 tp), (aI g z1 3 nj), (aI g p1 24 sj), (aI g p2 10 fj2), (aI g p3 6 tj), (aI g p4 6 mj)]) (va_runU (As := []) (rest := [.int (nI j)]) ⟨hx, hb, hml, hown, hts⟩ (c_X6_mostParts l g p0 p1 p2 p3 p4 (nI wj) H.size) (va_cwA 0 hts gX7_read_X6_mostParts_u38X6 rfl rfl rfl dc38 (by decide +kernel) ⟨Nat.le_of_ble_eq_true rfl, Nat.le_of_ble_eq_true rfl⟩) (he_preV (wc := [(oX6 p0 p1 p2 p3 p4 (nI wj))]) hK hP hD hS hA hE [3] rfl rfl 3 rfl rfl) rfl rfl hl.1 rfl (lv_room (Nat.le_of_ble_eq_true rfl)) dX7_read_36 ⟨(Nat.le_of_ble_eq_true rfl), (Nat.le_of_ble_eq_true rfl)⟩) hP hD hS hA [3] [0, 1, 2, 4, 5, 6, 7] rfl rfl rfl (by decide) (fun r_1 u_2 H locs h_3 hP hD hS => ?_)
      subst h_3
      have hP : va_P g.1 vwCl [(oX7 z0 y0 (nI n) (nI kj) fj pj z1), (aB g y0 500 tp), (aI g z1 3 nj), (aI g p1 24 sj), (aI g p2 10 fj2), (aI g p3 6 tj), (aI g p4 6 mj), (oX6 p0 p1 p2 p3 p4 (nI wj))] H := hP
      have hD : va_D A [(oX7 z0 y0 (nI n) (nI kj) fj pj z1), (aB g y0 500 tp), (aI g z1 3 nj), (aI g p1 24 sj), (aI g p2 10 fj2), (aI g p3 6 tj), (aI g p4 6 mj), (oX6 p0 p1 p2 p3 p4 (nI wj))] := hD
      refine lv_icmp_gt (tgt := 76) hx hb dX7_read_39 (by decide) (fun c_4 => ?_) (fun c_4 => ?_)
      · have k_5 : 60 < j := (he_clt (a := 60) (b := j) (by decide) rfl (by omega) (by omega)).mp c_4
        refine lv_aload_n hx hb dX7_read_76 rfl (lv_at hl 0 rfl) ?_
        refine va_get (v := .int fj) (T := TX7) (N := 6) hx hb hts inX7 hown hK hP 0 rfl rfl 3 (by decide) f35 (fun _ h9 => h9) rfl dX7_read_77 ?_
        have hP := hP.sub (ws' := [(oX7 z0 y0 (nI n) (nI kj) fj pj z1), (aB g y0 500 tp), (aI g z1 3 nj), (oX6 p0 p1 p2 p3 p4 (nI wj)), (aI g p1 24 sj), (aI g p2 10 fj2), (aI g p3 6 tj), (aI g p4 6 mj)]) [0, 1, 2, 7, 3, 4, 5, 6] rfl
        have hD := hD.sub (ws' := [(oX7 z0 y0 (nI n) (nI kj) fj pj z1), (aB g y0 500 tp), (aI g z1 3 nj), (oX6 p0 p1 p2 p3 p4 (nI wj)), (aI g p1 24 sj), (aI g p2 10 fj2), (aI g p3 6 tj), (aI g p4 6 mj)]) [0, 1, 2, 7, 3, 4, 5, 6] (by decide) rfl
        exact he_ri hQ hx hb hr hlk hP hD hS dX7_read_80 (Nat.le_of_ble_eq_true rfl) (Nat.le_of_ble_eq_true rfl) ((kj, fj, pj, nj, wj, sj, fj2, tj, mj)) (rfl) (⟨rfl, by (try dsimp only); omega, by (try dsimp only); omega⟩)
      · have k_6 : ¬ (60 < j) := fun h9 => c_4 ((he_clt (a := 60) (b := j) (by decide) rfl (by omega) (by omega)).mpr h9)
        refine lv_aload_n hx hb dX7_read_42 rfl (lv_at hl 0 rfl) ?_
        refine he_cv (wc := [(oX7 z0 y0 (nI n) (nI kj) fj pj z1), (aB g y0 500 tp)]) (wr := [(aI g z1 3 nj), (aI g p1 24 sj), (aI g p2 10 fj2), (aI g p3 6 tj), (aI g p4 6 mj), (oX6 p0 p1 p2 p3 p4 (nI wj))]) (va_runV (As := []) (rest := []) ⟨hx, hb, hml, hown, hts⟩ (g_X7_skipBlanks l g z0 z1 y0 n kj fj pj tp (by first | assumption | decide | omega) (by first | assumption | decide | omega) H.size) (cwV 0 hts gX7_read_X7_skipBlanks rfl rfl rfl (by decide +kernel) ⟨Nat.le_of_ble_eq_true rfl, Nat.le_of_ble_eq_true rfl⟩) (he_preV (wc := [(oX7 z0 y0 (nI n) (nI kj) fj pj z1), (aB g y0 500 tp)]) hK hP hD hS hA hE [0, 1] rfl rfl 0 rfl rfl) rfl rfl hl.1 rfl (lv_room (Nat.le_of_ble_eq_true rfl)) dX7_read_43 ⟨(Nat.le_of_ble_eq_true rfl), (Nat.le_of_ble_eq_true rfl)⟩) hP hD hS hA [0, 1] [2, 3, 4, 5, 6, 7] rfl rfl rfl (by decide) (fun u_8 H locs h_9 hP hD hS => ?_)
        obtain ⟨k2_10, rfl⟩ : ∃ z, z = u_8 := ⟨_, rfl⟩
        try dsimp only at h_9
        obtain ⟨hf_11, hf_12⟩ := h_9
        have hP : va_P g.1 vwCl [(aI g z1 3 nj), (aI g p1 24 sj), (aI g p2 10 fj2), (aI g p3 6 tj), (aI g p4 6 mj), (oX6 p0 p1 p2 p3 p4 (nI wj)), (oX7 z0 y0 (nI n) (nI k2_10) fj pj z1), (aB g y0 500 tp)] H := hP
        have hD : va_D A [(aI g z1 3 nj), (aI g p1 24 sj), (aI g p2 10 fj2), (aI g p3 6 tj), (aI g p4 6 mj), (oX6 p0 p1 p2 p3 p4 (nI wj)), (oX7 z0 y0 (nI n) (nI k2_10) fj pj z1), (aB g y0 500 tp)] := hD
        refine lv_aload_n hx hb dX7_read_46 rfl (lv_at hl 0 rfl) ?_
        refine va_get (v := .int (nI k2_10)) (T := TX7) (N := 6) hx hb hts inX7 hown hK hP 6 rfl rfl 2 (by decide) f32 (fun _ h9 => h9) rfl dX7_read_47 ?_
        refine lv_aload_n hx hb dX7_read_50 rfl (lv_at hl 0 rfl) ?_
        refine va_get (v := .int (nI n)) (T := TX7) (N := 6) hx hb hts inX7 hown hK hP 6 rfl rfl 1 (by decide) f29 (fun _ h9 => h9) rfl dX7_read_51 ?_
        refine lv_icmp_ge (tgt := 76) hx hb dX7_read_54 (by decide) (fun c_13 => ?_) (fun c_13 => ?_)
        · have k_14 : n ≤ k2_10 := (he_cle (a := n) (b := k2_10) rfl rfl (by omega) (by omega)).mp c_13
          refine lv_aload_n hx hb dX7_read_76 rfl (lv_at hl 0 rfl) ?_
          refine va_get (v := .int fj) (T := TX7) (N := 6) hx hb hts inX7 hown hK hP 6 rfl rfl 3 (by decide) f35 (fun _ h9 => h9) rfl dX7_read_77 ?_
          have hP := hP.sub (ws' := [(oX7 z0 y0 (nI n) (nI k2_10) fj pj z1), (aB g y0 500 tp), (aI g z1 3 nj), (oX6 p0 p1 p2 p3 p4 (nI wj)), (aI g p1 24 sj), (aI g p2 10 fj2), (aI g p3 6 tj), (aI g p4 6 mj)]) [6, 7, 0, 5, 1, 2, 3, 4] rfl
          have hD := hD.sub (ws' := [(oX7 z0 y0 (nI n) (nI k2_10) fj pj z1), (aB g y0 500 tp), (aI g z1 3 nj), (oX6 p0 p1 p2 p3 p4 (nI wj)), (aI g p1 24 sj), (aI g p2 10 fj2), (aI g p3 6 tj), (aI g p4 6 mj)]) [6, 7, 0, 5, 1, 2, 3, 4] (by decide) rfl
          exact he_ri hQ hx hb hr hlk hP hD hS dX7_read_80 (Nat.le_of_ble_eq_true rfl) (Nat.le_of_ble_eq_true rfl) ((k2_10, fj, pj, nj, wj, sj, fj2, tj, mj)) (rfl) (⟨rfl, by (try dsimp only); omega, by (try dsimp only); omega⟩)
        · have k_15 : ¬ (n ≤ k2_10) := fun h9 => c_13 ((he_cle (a := n) (b := k2_10) rfl rfl (by omega) (by omega)).mpr h9)
          refine lv_aload_n hx hb dX7_read_57 rfl (lv_at hl 0 rfl) ?_
          refine lv_aload_n hx hb dX7_read_58 rfl (lv_at hl 1 rfl) ?_
          refine lv_iload hx hb dX7_read_59 (lv_at hl 2 rfl) ?_
          refine he_ci (wc := [(oX7 z0 y0 (nI n) (nI k2_10) fj pj z1), (aB g y0 500 tp), (aI g z1 3 nj), (oX6 p0 p1 p2 p3 p4 (nI wj)), (aI g p1 24 sj), (aI g p2 10 fj2), (aI g p3 6 tj), (aI g p4 6 mj)]) (wr := []) (va_runV (As := [.ref p0, .int (nI j)]) (rest := []) ⟨hx, hb, hml, hown, hts⟩ (g_X7_readPart6 l g z0 z1 y0 n k2_10 fj pj tp nj p0 p1 p2 p3 p4 wj sj fj2 tj mj (nI j) (by first | assumption | decide | omega) (by first | assumption | decide | omega) (by first | assumption | decide | omega) H.size) (cwV 2 hts gX7_read_X7_readPart rfl rfl rfl (by decide +kernel) ⟨Nat.le_of_ble_eq_true rfl, Nat.le_of_ble_eq_true rfl⟩) (he_preV (wc := [(oX7 z0 y0 (nI n) (nI k2_10) fj pj z1), (aB g y0 500 tp), (aI g z1 3 nj), (oX6 p0 p1 p2 p3 p4 (nI wj)), (aI g p1 24 sj), (aI g p2 10 fj2), (aI g p3 6 tj), (aI g p4 6 mj)]) hK hP hD hS hA hE [6, 7, 0, 5, 1, 2, 3, 4] rfl rfl 6 rfl rfl) rfl rfl hl.1 rfl (lv_room (Nat.le_of_ble_eq_true rfl)) dX7_read_61 ⟨(Nat.le_of_ble_eq_true rfl), (Nat.le_of_ble_eq_true rfl)⟩) hP hD hS hA [6, 7, 0, 5, 1, 2, 3, 4] [] rfl rfl rfl (by decide) (fun r_16 u_17 H locs h_18 hP hD hS => ?_)
          obtain ⟨k2_19, fb_20, pb_21, nv_22, uw_23, ud_24, un_25, ut_26, um_27⟩ := u_17
          try dsimp only at h_18
          obtain ⟨hf_28, hf_29, hf_30, hf_31⟩ := h_18
          have hP : va_P g.1 vwCl [(oX7 z0 y0 (nI n) (nI k2_19) fb_20 pb_21 z1), (aB g y0 500 tp), (aI g z1 3 nv_22), (oX6 p0 p1 p2 p3 p4 (nI uw_23)), (aI g p1 24 ud_24), (aI g p2 10 un_25), (aI g p3 6 ut_26), (aI g p4 6 um_27)] H := hP
          have hD : va_D A [(oX7 z0 y0 (nI n) (nI k2_19) fb_20 pb_21 z1), (aB g y0 500 tp), (aI g z1 3 nv_22), (oX6 p0 p1 p2 p3 p4 (nI uw_23)), (aI g p1 24 ud_24), (aI g p2 10 un_25), (aI g p3 6 ut_26), (aI g p4 6 um_27)] := hD
          refine lv_if_ne (tgt := 70) hx hb dX7_read_64 (by decide) (fun c_32 => ?_) (fun c_32 => ?_)
          · refine lv_iinc (v := nI (j + 1)) (lv' := [(4, .int (nI (j + 1))), (0, .ref z0), (3, .ref p0)]) hx hb dX7_read_70 hl (k := 2) rfl (nI_1 j) (by decide) rfl (fun ls hl => ?_)
            refine lv_goto (tgt := 33) hx hb dX7_read_73 (by decide) ?_
            exact ih33 (j + 1) k2_19 fb_20 pb_21 nv_22 uw_23 ud_24 un_25 ut_26 um_27 (by omega) (by omega) (by omega) (by omega) _ _ _ hP hD hS (lv_sub hl [1, 2, 0] rfl)
          · refine lv_goto (tgt := 76) hx hb dX7_read_67 (by decide) ?_
            refine lv_aload_n hx hb dX7_read_76 rfl (lv_at hl 0 rfl) ?_
            refine va_get (v := .int fb_20) (T := TX7) (N := 6) hx hb hts inX7 hown hK hP 0 rfl rfl 3 (by decide) f35 (fun _ h9 => h9) rfl dX7_read_77 ?_
            exact he_ri hQ hx hb hr hlk hP hD hS dX7_read_80 (Nat.le_of_ble_eq_true rfl) (Nat.le_of_ble_eq_true rfl) ((k2_19, fb_20, pb_21, nv_22, uw_23, ud_24, un_25, ut_26, um_27)) (rfl) (⟨rfl, by (try dsimp only); omega, by (try dsimp only); omega⟩)
  exact loop33 ((61 - 0) + 1) 0 0 0 (-1) nu w sd fn st me (Nat.lt_succ_self _) (Nat.zero_le _) (Nat.zero_le _) hw6 _ _ _ hP hD hS (lv_sub hl [1, 4, 0] rfl)
set_option maxHeartbeats 4000000 in
set_option maxRecDepth 100000 in
theorem g_X7_readPart5 (l : Launch) (g : he_G) (z0 : Nat) (z1 : Nat) (y0 : Nat) (n : Nat) (k : Nat) (fa : Int32) (pl : Int32) (tp : Nat → Int32) (nu : Nat → Int32) (t0 : Nat) (t1 : Nat) (t2 : Nat) (pw : Int32) (pd : Nat → Int32) (wb : Nat → Int32) (bf : Int32) (hk : k ≤ n) (hn : n ≤ 500) (hpd : (∃ ck, ck ≤ 99 ∧ pd 3 = nI ck)) (hwb : (∀ k, k < 36 → -1 ≤ wb k)) : he_I l yX7_readPart wsX7_readPart 6 135 0 0 g [.ref z0, .ref t0, .int bf] [(oX7 z0 y0 (nI n) (nI k) fa pl z1), (aB g y0 500 tp), (aI g z1 3 nu), (oX5 t0 t1 t2 pw), (aI g t1 6 pd), (aI g t2 36 wb)] (fun (r : Int32) (u : Nat × Int32 × Int32 × (Nat → Int32) × (Nat → Int32) × (Nat → Int32)) => k ≤ u.1 ∧ u.1 ≤ n ∧ (r = 0 ∨ r = 1) ∧ (∃ ck, ck ≤ 99 ∧ u.2.2.2.2.1 3 = nI ck) ∧ ((∀ k, k < 36 → -1 ≤ u.2.2.2.2.2 k))) (fun (u : Nat × Int32 × Int32 × (Nat → Int32) × (Nat → Int32) × (Nat → Int32)) => [(oX7 z0 y0 (nI n) (nI u.1) u.2.1 u.2.2.1 z1), (aB g y0 500 tp), (aI g z1 3 u.2.2.2.1), (oX5 t0 t1 t2 pw), (aI g t1 6 u.2.2.2.2.1), (aI g t2 36 u.2.2.2.2.2)]) := by
  refine he_begin (l := l) (g := g) (y := yX7_readPart) (wl := wsX7_readPart) (fr := 6) (lo := 135) (mc := 0) (ms := 0) (av := [.ref z0, .ref t0, .int bf]) (ws := [(oX7 z0 y0 (nI n) (nI k) fa pl z1), (aB g y0 500 tp), (aI g z1 3 nu), (oX5 t0 t1 t2 pw), (aI g t1 6 pd), (aI g t2 36 wb)]) (cc := cX7_readPart) (maxL := 7) (ret := (some .boolean)) (fun A => va_Qi (fun (r : Int32) (u : Nat × Int32 × Int32 × (Nat → Int32) × (Nat → Int32) × (Nat → Int32)) => k ≤ u.1 ∧ u.1 ≤ n ∧ (r = 0 ∨ r = 1) ∧ (∃ ck, ck ≤ 99 ∧ u.2.2.2.2.1 3 = nI ck) ∧ ((∀ k, k < 36 → -1 ≤ u.2.2.2.2.2 k))) (fun u t => he_post g A ((fun (u : Nat × Int32 × Int32 × (Nat → Int32) × (Nat → Int32) × (Nat → Int32)) => [(oX7 z0 y0 (nI n) (nI u.1) u.2.1 u.2.2.1 z1), (aB g y0 500 tp), (aI g z1 3 u.2.2.2.1), (oX5 t0 t1 t2 pw), (aI g t1 6 u.2.2.2.2.1), (aI g t2 36 u.2.2.2.2.2)]) u) t) A) (by decide) rfl (Nat.le_of_ble_eq_true rfl) ?_
  intro p e s m args below meth c A ls H locs Q hQ hB
  obtain ⟨hx, hb, hr, hml, hown, hts, hlk, hin, hP, hK, hD, hS, hA, hE, hl⟩ := hB
  have hl : lv_has ls 7 [(0, .ref z0), (1, .ref t0), (2, .int bf)] := hl
  have f32 := hts (.fieldLink RX7 32 "HiredEnemy$Reader" "at" "I") (iwoX7_readPart (k := 0) rfl)
  have inX7 : ∀ w ∈ wsX70, w ∈ wsX7_readPart := innX7_readPart_X7
  have dc54 := hE.decl ⟨RX9, "words", "()Ljava/lang/String;"⟩ (by decide +kernel)
  have dc38 := hE.decl ⟨RX9, "mostParts", "()I"⟩ (by decide +kernel)
  have dc66 := hE.decl ⟨RX9, "isFull", "(I)Z"⟩ (by decide +kernel)
  have dc70 := hE.decl ⟨RX9, "numbers", "(I)I"⟩ (by decide +kernel)
  have f19 := hts (.fieldLink RX7 19 "HiredEnemy$Reader" "numbers" "[I") (iwoX7_readPart (k := 1) rfl)
  have ml23 := hts (.methodLink RX7 23 Lib.Math.min.name) (iwoX7_readPart (k := 2) rfl)
  have msmin := hts (.static Lib.Math.min.name) (iwoX7_readPart (k := 3) rfl)
  have mi := hts (.initialized "java/lang/Math") (iwoX7_readPart (k := 4) rfl)
  have mcmin := hts (.code Lib.Math.min.name Lib.Math.min.code 2 (some .int)) (by decide +kernel)
  have f29 := hts (.fieldLink RX7 29 "HiredEnemy$Reader" "length" "I") (iwoX7_readPart (k := 5) rfl)
  have f9 := hts (.fieldLink RX7 9 "HiredEnemy$Reader" "bytes" "[B") (iwoX7_readPart (k := 6) rfl)
  have dc83 := hE.decl ⟨RX9, "store", "(I[I)V"⟩ (by decide +kernel)
  have dc73 := hE.decl ⟨RX9, "low", "(II)I"⟩ (by decide +kernel)
  have dc76 := hE.decl ⟨RX9, "high", "(II)I"⟩ (by decide +kernel)
  refine lv_aload_n hx hb dX7_readPart_0 rfl (lv_at hl 0 rfl) ?_
  refine va_get (v := .int (nI k)) (T := TX7) (N := 6) hx hb hts inX7 hown hK hP 0 rfl rfl 2 (by decide) f32 (fun _ h9 => h9) rfl dX7_readPart_1 ?_
  refine lv_istore_n (lv' := [(3, .int (nI k)), (0, .ref z0), (1, .ref t0), (2, .int bf)]) hx hb dX7_readPart_4 rfl hl (by decide) rfl (fun ls hl => ?_)
  refine lv_aload_n hx hb dX7_readPart_5 rfl (lv_at hl 1 rfl) ?_
  refine he_cv (wc := [(oX7 z0 y0 (nI n) (nI k) fa pl z1), (aB g y0 500 tp)]) (wr := [(aI g z1 3 nu), (oX5 t0 t1 t2 pw), (aI g t1 6 pd), (aI g t2 36 wb)]) (va_runV (As := []) (rest := []) ⟨hx, hb, hml, hown, hts⟩ (g_X7_skipLetters l g z0 z1 y0 n k fa pl tp (by first | assumption | decide | omega) (by first | assumption | decide | omega) H.size) (cwV 0 hts gX7_readPart_X7_skipLetters rfl rfl rfl (by decide +kernel) ⟨Nat.le_of_ble_eq_true rfl, Nat.le_of_ble_eq_true rfl⟩) (he_preV (wc := [(oX7 z0 y0 (nI n) (nI k) fa pl z1), (aB g y0 500 tp)]) hK hP hD hS hA hE [0, 1] rfl rfl 0 rfl rfl) rfl rfl hl.1 rfl (lv_room (Nat.le_of_ble_eq_true rfl)) dX7_readPart_6 ⟨(Nat.le_of_ble_eq_true rfl), (Nat.le_of_ble_eq_true rfl)⟩) hP hD hS hA [0, 1] [2, 3, 4, 5] rfl rfl rfl (by decide) (fun u_2 H locs h_3 hP hD hS => ?_)
  obtain ⟨k2_4, rfl⟩ : ∃ z, z = u_2 := ⟨_, rfl⟩
  try dsimp only at h_3
  obtain ⟨hf_5, hf_6⟩ := h_3
  have hP : va_P g.1 vwCl [(aI g z1 3 nu), (oX5 t0 t1 t2 pw), (aI g t1 6 pd), (aI g t2 36 wb), (oX7 z0 y0 (nI n) (nI k2_4) fa pl z1), (aB g y0 500 tp)] H := hP
  have hD : va_D A [(aI g z1 3 nu), (oX5 t0 t1 t2 pw), (aI g t1 6 pd), (aI g t2 36 wb), (oX7 z0 y0 (nI n) (nI k2_4) fa pl z1), (aB g y0 500 tp)] := hD
  refine lv_aload_n hx hb dX7_readPart_9 rfl (lv_at hl 1 rfl) ?_
  refine lv_aload_n hx hb dX7_readPart_10 rfl (lv_at hl 2 rfl) ?_
  refine he_cq (wc := [(oX5 t0 t1 t2 pw)]) (wr := [(aI g z1 3 nu), (aI g t1 6 pd), (aI g t2 36 wb), (oX7 z0 y0 (nI n) (nI k2_4) fa pl z1), (aB g y0 500 tp)]) (va_runU (As := []) (rest := [.ref z0]) ⟨hx, hb, hml, hown, hts⟩ (g_X5_words l g t0 t1 t2 pw H.size) (va_cwA 0 hts gX7_readPart_X5_words_u54X5 rfl rfl rfl dc54 (by decide +kernel) ⟨Nat.le_of_ble_eq_true rfl, Nat.le_of_ble_eq_true rfl⟩) (he_preV (wc := [(oX5 t0 t1 t2 pw)]) hK hP hD hS hA hE [1] rfl rfl 1 rfl rfl) rfl rfl hl.1 rfl (lv_room (Nat.le_of_ble_eq_true rfl)) dX7_readPart_11 ⟨(Nat.le_of_ble_eq_true rfl), (Nat.le_of_ble_eq_true rfl)⟩) hP hD hS hA [1] [0, 2, 3, 4, 5] rfl rfl rfl (by decide) (fun r_7 u_8 H locs h_9 hP hD hS => ?_)
  subst h_9
  have hP : va_P g.1 vwCl [(aI g z1 3 nu), (aI g t1 6 pd), (aI g t2 36 wb), (oX7 z0 y0 (nI n) (nI k2_4) fa pl z1), (aB g y0 500 tp), (oX5 t0 t1 t2 pw)] H := hP
  have hD : va_D A [(aI g z1 3 nu), (aI g t1 6 pd), (aI g t2 36 wb), (oX7 z0 y0 (nI n) (nI k2_4) fa pl z1), (aB g y0 500 tp), (oX5 t0 t1 t2 pw)] := hD
  refine lv_iload_n hx hb dX7_readPart_14 rfl (lv_at hl 0 rfl) ?_
  refine he_ci (wc := [(oX7 z0 y0 (nI n) (nI k2_4) fa pl z1), (aB g y0 500 tp)]) (wr := [(aI g z1 3 nu), (aI g t1 6 pd), (aI g t2 36 wb), (oX5 t0 t1 t2 pw)]) (va_runV (As := [.ref (g.2 11), .int (nI k)]) (rest := []) ⟨hx, hb, hml, hown, hts⟩ (g_X7_kindOf5 l g z0 z1 y0 n k2_4 fa pl tp k (by first | assumption | decide | omega) (by first | assumption | decide | omega) (by first | assumption | decide | omega) H.size) (cwV 2 hts gX7_readPart_X7_kindOf rfl rfl rfl (by decide +kernel) ⟨Nat.le_of_ble_eq_true rfl, Nat.le_of_ble_eq_true rfl⟩) (he_preV (wc := [(oX7 z0 y0 (nI n) (nI k2_4) fa pl z1), (aB g y0 500 tp)]) hK hP hD hS hA hE [3, 4] rfl rfl 3 rfl rfl) rfl rfl hl.1 rfl (lv_room (Nat.le_of_ble_eq_true rfl)) dX7_readPart_15 ⟨(Nat.le_of_ble_eq_true rfl), (Nat.le_of_ble_eq_true rfl)⟩) hP hD hS hA [3, 4] [0, 1, 2, 5] rfl rfl rfl (by decide) (fun r_10 u_11 H locs h_12 hP hD hS => ?_)
  have hP : va_P g.1 vwCl [(aI g z1 3 nu), (aI g t1 6 pd), (aI g t2 36 wb), (oX5 t0 t1 t2 pw), (oX7 z0 y0 (nI n) (nI k2_4) fa pl z1), (aB g y0 500 tp)] H := hP
  have hD : va_D A [(aI g z1 3 nu), (aI g t1 6 pd), (aI g t2 36 wb), (oX5 t0 t1 t2 pw), (oX7 z0 y0 (nI n) (nI k2_4) fa pl z1), (aB g y0 500 tp)] := hD
  refine lv_istore (lv' := [(4, .int r_10), (3, .int (nI k)), (0, .ref z0), (1, .ref t0), (2, .int bf)]) hx hb dX7_readPart_18 hl (by decide) rfl (fun ls hl => ?_)
  refine lv_iload hx hb dX7_readPart_20 (lv_at hl 0 rfl) ?_
  refine lv_iconst (v := (-1)) hx hb dX7_readPart_22 (by decide) ?_
  refine lv_icmp_ne (tgt := 33) hx hb dX7_readPart_23 (by decide) (fun c_13 => ?_) (fun c_13 => ?_)
  · have join50 : ∀ (_ : Unit), ∀ (H : Heap) (locs : List Loc) (ls : Array Slot), va_P g.1 vwCl [(aI g z1 3 nu), (aI g t1 6 pd), (aI g t2 36 wb), (oX5 t0 t1 t2 pw), (oX7 z0 y0 (nI n) (nI k2_4) fa pl z1), (aB g y0 500 tp)] H → va_D A [(aI g z1 3 nu), (aI g t1 6 pd), (aI g t2 36 wb), (oX5 t0 t1 t2 pw), (oX7 z0 y0 (nI n) (nI k2_4) fa pl z1), (aB g y0 500 tp)] → va_S A s.heap H locs → lv_has ls 7 [(4, .int r_10), (3, .int (nI k)), (0, .ref z0), (1, .ref t0), (2, .int bf)] → W p l e (he_room 6 135 0 0) s m args below meth c H locs 0 0 Q (F0 m 50 ls []) := by
      intro _ H locs ls hP hD hS hl
      refine lv_aload_n hx hb dX7_readPart_50 rfl (lv_at hl 2 rfl) ?_
      refine lv_iconst (v := 3) hx hb dX7_readPart_51 (by decide) ?_
      refine lv_iload_n hx hb dX7_readPart_52 rfl (lv_at hl 1 rfl) ?_
      refine he_ci (wc := [(oX7 z0 y0 (nI n) (nI k2_4) fa pl z1), (aB g y0 500 tp)]) (wr := [(aI g z1 3 nu), (aI g t1 6 pd), (aI g t2 36 wb), (oX5 t0 t1 t2 pw)]) (va_runV (As := [.int 3, .int (nI k)]) (rest := []) ⟨hx, hb, hml, hown, hts⟩ (g_X7_fail l g z0 z1 y0 n k2_4 fa pl tp 3 (nI k) H.size) (cwV 2 hts gX7_readPart_X7_fail rfl rfl rfl (by decide +kernel) ⟨Nat.le_of_ble_eq_true rfl, Nat.le_of_ble_eq_true rfl⟩) (he_preV (wc := [(oX7 z0 y0 (nI n) (nI k2_4) fa pl z1), (aB g y0 500 tp)]) hK hP hD hS hA hE [4, 5] rfl rfl 4 rfl rfl) rfl rfl hl.1 rfl (lv_room (Nat.le_of_ble_eq_true rfl)) dX7_readPart_53 ⟨(Nat.le_of_ble_eq_true rfl), (Nat.le_of_ble_eq_true rfl)⟩) hP hD hS hA [4, 5] [0, 1, 2, 3] rfl rfl rfl (by decide) (fun r_14 u_15 H locs h_16 hP hD hS => ?_)
      subst h_16
      have hP : va_P g.1 vwCl [(aI g z1 3 nu), (aI g t1 6 pd), (aI g t2 36 wb), (oX5 t0 t1 t2 pw), (oX7 z0 y0 (nI n) (nI k2_4) 3 (nI k) z1), (aB g y0 500 tp)] H := hP
      have hD : va_D A [(aI g z1 3 nu), (aI g t1 6 pd), (aI g t2 36 wb), (oX5 t0 t1 t2 pw), (oX7 z0 y0 (nI n) (nI k2_4) 3 (nI k) z1), (aB g y0 500 tp)] := hD
      have hP := hP.sub (ws' := [(oX7 z0 y0 (nI n) (nI k2_4) 3 (nI k) z1), (aB g y0 500 tp), (aI g z1 3 nu), (oX5 t0 t1 t2 pw), (aI g t1 6 pd), (aI g t2 36 wb)]) [4, 5, 0, 3, 1, 2] rfl
      have hD := hD.sub (ws' := [(oX7 z0 y0 (nI n) (nI k2_4) 3 (nI k) z1), (aB g y0 500 tp), (aI g z1 3 nu), (oX5 t0 t1 t2 pw), (aI g t1 6 pd), (aI g t2 36 wb)]) [4, 5, 0, 3, 1, 2] (by decide) rfl
      exact he_rz hQ hx hb hr hlk hP hD hS dX7_readPart_56 (Nat.le_of_ble_eq_true rfl) (Nat.le_of_ble_eq_true rfl) rfl ((k2_4, 3, nI k, nu, pd, wb)) (rfl) (⟨by (try dsimp only); omega, by (try dsimp only); omega, Or.inl rfl, hpd, hwb⟩)
    refine lv_iload_n hx hb dX7_readPart_33 rfl (lv_at hl 4 rfl) ?_
    refine lv_aload_n hx hb dX7_readPart_34 rfl (lv_at hl 3 rfl) ?_
    refine he_ci (wc := [(oX5 t0 t1 t2 pw)]) (wr := [(aI g z1 3 nu), (aI g t1 6 pd), (aI g t2 36 wb), (oX7 z0 y0 (nI n) (nI k2_4) fa pl z1), (aB g y0 500 tp)]) (va_runU (As := []) (rest := [.int bf]) ⟨hx, hb, hml, hown, hts⟩ (c_X5_mostParts l g t0 t1 t2 pw H.size) (va_cwA 0 hts gX7_readPart_X5_mostParts_u38X5 rfl rfl rfl dc38 (by decide +kernel) ⟨Nat.le_of_ble_eq_true rfl, Nat.le_of_ble_eq_true rfl⟩) (he_preV (wc := [(oX5 t0 t1 t2 pw)]) hK hP hD hS hA hE [3] rfl rfl 3 rfl rfl) rfl rfl hl.1 rfl (lv_room (Nat.le_of_ble_eq_true rfl)) dX7_readPart_35 ⟨(Nat.le_of_ble_eq_true rfl), (Nat.le_of_ble_eq_true rfl)⟩) hP hD hS hA [3] [0, 1, 2, 4, 5] rfl rfl rfl (by decide) (fun r_17 u_18 H locs h_19 hP hD hS => ?_)
    subst h_19
    have hP : va_P g.1 vwCl [(aI g z1 3 nu), (aI g t1 6 pd), (aI g t2 36 wb), (oX7 z0 y0 (nI n) (nI k2_4) fa pl z1), (aB g y0 500 tp), (oX5 t0 t1 t2 pw)] H := hP
    have hD : va_D A [(aI g z1 3 nu), (aI g t1 6 pd), (aI g t2 36 wb), (oX7 z0 y0 (nI n) (nI k2_4) fa pl z1), (aB g y0 500 tp), (oX5 t0 t1 t2 pw)] := hD
    refine lv_icmp_ge (tgt := 50) hx hb dX7_readPart_38 (by decide) (fun c_20 => ?_) (fun c_20 => ?_)
    · exact join50 ()  _ _ _ (hP.sub [0, 1, 2, 5, 3, 4] rfl) (hD.sub [0, 1, 2, 5, 3, 4] (by decide) rfl) hS (lv_sub hl [0, 1, 2, 3, 4] rfl)
    · refine lv_aload_n hx hb dX7_readPart_41 rfl (lv_at hl 3 rfl) ?_
      refine lv_iload hx hb dX7_readPart_42 (lv_at hl 0 rfl) ?_
      refine he_ci (wc := [(oX5 t0 t1 t2 pw)]) (wr := [(aI g z1 3 nu), (aI g t1 6 pd), (aI g t2 36 wb), (oX7 z0 y0 (nI n) (nI k2_4) fa pl z1), (aB g y0 500 tp)]) (va_runU (As := [.int r_10]) (rest := []) ⟨hx, hb, hml, hown, hts⟩ (g_X5_isFull l g t0 t1 t2 pw r_10 H.size) (va_cwA 1 hts gX7_readPart_X5_isFull_u66X5 rfl rfl rfl dc66 (by decide +kernel) ⟨Nat.le_of_ble_eq_true rfl, Nat.le_of_ble_eq_true rfl⟩) (he_preV (wc := [(oX5 t0 t1 t2 pw)]) hK hP hD hS hA hE [5] rfl rfl 5 rfl rfl) rfl rfl hl.1 rfl (lv_room (Nat.le_of_ble_eq_true rfl)) dX7_readPart_44 ⟨(Nat.le_of_ble_eq_true rfl), (Nat.le_of_ble_eq_true rfl)⟩) hP hD hS hA [5] [0, 1, 2, 3, 4] rfl rfl rfl (by decide) (fun r_21 u_22 H locs h_23 hP hD hS => ?_)
      have hP : va_P g.1 vwCl [(aI g z1 3 nu), (aI g t1 6 pd), (aI g t2 36 wb), (oX7 z0 y0 (nI n) (nI k2_4) fa pl z1), (aB g y0 500 tp), (oX5 t0 t1 t2 pw)] H := hP
      have hD : va_D A [(aI g z1 3 nu), (aI g t1 6 pd), (aI g t2 36 wb), (oX7 z0 y0 (nI n) (nI k2_4) fa pl z1), (aB g y0 500 tp), (oX5 t0 t1 t2 pw)] := hD
      refine lv_if_eq (tgt := 57) hx hb dX7_readPart_47 (by decide) (fun c_24 => ?_) (fun c_24 => ?_)
      · refine lv_aload_n hx hb dX7_readPart_57 rfl (lv_at hl 3 rfl) ?_
        refine lv_iload hx hb dX7_readPart_58 (lv_at hl 0 rfl) ?_
        refine he_ci (wc := [(oX5 t0 t1 t2 pw)]) (wr := [(aI g z1 3 nu), (aI g t1 6 pd), (aI g t2 36 wb), (oX7 z0 y0 (nI n) (nI k2_4) fa pl z1), (aB g y0 500 tp)]) (va_runU (As := [.int r_10]) (rest := []) ⟨hx, hb, hml, hown, hts⟩ (g_X5_numbers l g t0 t1 t2 pw r_10 H.size) (va_cwA 1 hts gX7_readPart_X5_numbers_u70X5 rfl rfl rfl dc70 (by decide +kernel) ⟨Nat.le_of_ble_eq_true rfl, Nat.le_of_ble_eq_true rfl⟩) (he_preV (wc := [(oX5 t0 t1 t2 pw)]) hK hP hD hS hA hE [5] rfl rfl 5 rfl rfl) rfl rfl hl.1 rfl (lv_room (Nat.le_of_ble_eq_true rfl)) dX7_readPart_60 ⟨(Nat.le_of_ble_eq_true rfl), (Nat.le_of_ble_eq_true rfl)⟩) hP hD hS hA [5] [0, 1, 2, 3, 4] rfl rfl rfl (by decide) (fun r_25 u_26 H locs h_27 hP hD hS => ?_)
        try dsimp only at h_27
        obtain ⟨hf_28, hf_29⟩ := h_27
        have hP : va_P g.1 vwCl [(aI g z1 3 nu), (aI g t1 6 pd), (aI g t2 36 wb), (oX7 z0 y0 (nI n) (nI k2_4) fa pl z1), (aB g y0 500 tp), (oX5 t0 t1 t2 pw)] H := hP
        have hD : va_D A [(aI g z1 3 nu), (aI g t1 6 pd), (aI g t2 36 wb), (oX7 z0 y0 (nI n) (nI k2_4) fa pl z1), (aB g y0 500 tp), (oX5 t0 t1 t2 pw)] := hD
        have HF60 := hf_28
        refine lv_aload_n hx hb dX7_readPart_63 rfl (lv_at hl 2 rfl) ?_
        refine va_get (v := .ref z1) (T := TX7) (N := 6) hx hb hts inX7 hown hK hP 3 rfl rfl 5 (by decide) f19 (fun _ h9 => h9) rfl dX7_readPart_64 ?_
        refine va_alen (v := 3) hx hb hK hP 0 1 rfl rfl rfl dX7_readPart_67 ?_
        refine va_mmin hx hb (by rw [hml]; exact hl.1.symm) hown ml23 msmin mi mcmin (by decide) (Nat.le_of_ble_eq_true rfl) (Nat.le_of_ble_eq_true rfl) (Nat.le_of_ble_eq_true rfl) dX7_readPart_68 ?_
        refine lv_istore (lv' := [(5, .int (if 3 < r_25 then 3 else r_25)), (4, .int r_10), (3, .int (nI k)), (0, .ref z0), (1, .ref t0), (2, .int bf)]) hx hb dX7_readPart_71 hl (by decide) rfl (fun ls hl => ?_)
        refine lv_iconst (v := 0) hx hb dX7_readPart_73 (by decide) ?_
        refine lv_istore (lv' := [(6, .int 0), (5, .int (if 3 < r_25 then 3 else r_25)), (4, .int r_10), (3, .int (nI k)), (0, .ref z0), (1, .ref t0), (2, .int bf)]) hx hb dX7_readPart_74 hl (by decide) rfl (fun ls hl => ?_)
        have loop76 : ∀ (n9 : Nat) (j : Nat) (kj : Nat) (fj : Int32) (pj : Int32) (nj : Nat → Int32), 3 - j < n9 → (j ≤ 3) → (k ≤ kj) → (kj ≤ n) → (j = 0 ∨ ¬ he_within (nj 0) (loP r_10) (hiP r_10 0 pw) = 0) → ∀ (H : Heap) (locs : List Loc) (ls : Array Slot), va_P g.1 vwCl [(oX7 z0 y0 (nI n) (nI kj) fj pj z1), (aB g y0 500 tp), (aI g z1 3 nj), (oX5 t0 t1 t2 pw), (aI g t1 6 pd), (aI g t2 36 wb)] H → va_D A [(oX7 z0 y0 (nI n) (nI kj) fj pj z1), (aB g y0 500 tp), (aI g z1 3 nj), (oX5 t0 t1 t2 pw), (aI g t1 6 pd), (aI g t2 36 wb)] → va_S A s.heap H locs → lv_has ls 7 [(0, .ref z0), (1, .ref t0), (3, .int (nI k)), (4, .int r_10), (5, .int (if 3 < r_25 then 3 else r_25)), (6, .int (nI j))] → W p l e (he_room 6 135 0 0) s m args below meth c H locs 0 0 Q (F0 m 76 ls []) := by
          intro n9
          induction n9 with
          | zero => intro j kj fj pj nj hm9; exact absurd hm9 (Nat.not_lt_zero _)
          | succ n9 ih76 =>
            intro j kj fj pj nj hm9 hj hkj hkn hn0 H locs ls hP hD hS hl
            refine lv_iload hx hb dX7_readPart_76 (lv_at hl 5 rfl) ?_
            refine lv_iload hx hb dX7_readPart_78 (lv_at hl 4 rfl) ?_
            refine lv_icmp_ge (tgt := 116) hx hb dX7_readPart_80 (by decide) (fun c_30 => ?_) (fun c_30 => ?_)
            · have hn1 := hn0.resolve_left (fun h9 => min3_1 HF60 (by rw [h9] at c_30; exact c_30))
              refine lv_aload_n hx hb dX7_readPart_116 rfl (lv_at hl 0 rfl) ?_
              refine he_cv (wc := [(oX7 z0 y0 (nI n) (nI kj) fj pj z1), (aB g y0 500 tp)]) (wr := [(aI g z1 3 nj), (oX5 t0 t1 t2 pw), (aI g t1 6 pd), (aI g t2 36 wb)]) (va_runV (As := []) (rest := []) ⟨hx, hb, hml, hown, hts⟩ (g_X7_skipBlanks l g z0 z1 y0 n kj fj pj tp (by first | assumption | decide | omega) (by first | assumption | decide | omega) H.size) (cwV 0 hts gX7_readPart_X7_skipBlanks rfl rfl rfl (by decide +kernel) ⟨Nat.le_of_ble_eq_true rfl, Nat.le_of_ble_eq_true rfl⟩) (he_preV (wc := [(oX7 z0 y0 (nI n) (nI kj) fj pj z1), (aB g y0 500 tp)]) hK hP hD hS hA hE [0, 1] rfl rfl 0 rfl rfl) rfl rfl hl.1 rfl (lv_room (Nat.le_of_ble_eq_true rfl)) dX7_readPart_117 ⟨(Nat.le_of_ble_eq_true rfl), (Nat.le_of_ble_eq_true rfl)⟩) hP hD hS hA [0, 1] [2, 3, 4, 5] rfl rfl rfl (by decide) (fun u_32 H locs h_33 hP hD hS => ?_)
              obtain ⟨k2_34, rfl⟩ : ∃ z, z = u_32 := ⟨_, rfl⟩
              try dsimp only at h_33
              obtain ⟨hf_35, hf_36⟩ := h_33
              have hP : va_P g.1 vwCl [(aI g z1 3 nj), (oX5 t0 t1 t2 pw), (aI g t1 6 pd), (aI g t2 36 wb), (oX7 z0 y0 (nI n) (nI k2_34) fj pj z1), (aB g y0 500 tp)] H := hP
              have hD : va_D A [(aI g z1 3 nj), (oX5 t0 t1 t2 pw), (aI g t1 6 pd), (aI g t2 36 wb), (oX7 z0 y0 (nI n) (nI k2_34) fj pj z1), (aB g y0 500 tp)] := hD
              have join145 : ∀ (_ : Unit), ∀ (H : Heap) (locs : List Loc) (ls : Array Slot), va_P g.1 vwCl [(aI g z1 3 nj), (oX5 t0 t1 t2 pw), (aI g t1 6 pd), (aI g t2 36 wb), (oX7 z0 y0 (nI n) (nI k2_34) fj pj z1), (aB g y0 500 tp)] H → va_D A [(aI g z1 3 nj), (oX5 t0 t1 t2 pw), (aI g t1 6 pd), (aI g t2 36 wb), (oX7 z0 y0 (nI n) (nI k2_34) fj pj z1), (aB g y0 500 tp)] → va_S A s.heap H locs → lv_has ls 7 [(0, .ref z0), (1, .ref t0), (3, .int (nI k)), (4, .int r_10), (5, .int (if 3 < r_25 then 3 else r_25)), (6, .int (nI j))] → W p l e (he_room 6 135 0 0) s m args below meth c H locs 0 0 Q (F0 m 145 ls []) := by
                intro _ H locs ls hP hD hS hl
                refine lv_aload_n hx hb dX7_readPart_145 rfl (lv_at hl 0 rfl) ?_
                refine lv_iconst (v := 1) hx hb dX7_readPart_146 (by decide) ?_
                refine lv_aload_n hx hb dX7_readPart_147 rfl (lv_at hl 0 rfl) ?_
                refine va_get (v := .int (nI k2_34)) (T := TX7) (N := 6) hx hb hts inX7 hown hK hP 4 rfl rfl 2 (by decide) f32 (fun _ h9 => h9) rfl dX7_readPart_148 ?_
                refine he_ci (wc := [(oX7 z0 y0 (nI n) (nI k2_34) fj pj z1), (aB g y0 500 tp)]) (wr := [(aI g z1 3 nj), (oX5 t0 t1 t2 pw), (aI g t1 6 pd), (aI g t2 36 wb)]) (va_runV (As := [.int 1, .int (nI k2_34)]) (rest := []) ⟨hx, hb, hml, hown, hts⟩ (g_X7_fail l g z0 z1 y0 n k2_34 fj pj tp 1 (nI k2_34) H.size) (cwV 2 hts gX7_readPart_X7_fail rfl rfl rfl (by decide +kernel) ⟨Nat.le_of_ble_eq_true rfl, Nat.le_of_ble_eq_true rfl⟩) (he_preV (wc := [(oX7 z0 y0 (nI n) (nI k2_34) fj pj z1), (aB g y0 500 tp)]) hK hP hD hS hA hE [4, 5] rfl rfl 4 rfl rfl) rfl rfl hl.1 rfl (lv_room (Nat.le_of_ble_eq_true rfl)) dX7_readPart_151 ⟨(Nat.le_of_ble_eq_true rfl), (Nat.le_of_ble_eq_true rfl)⟩) hP hD hS hA [4, 5] [0, 1, 2, 3] rfl rfl rfl (by decide) (fun r_37 u_38 H locs h_39 hP hD hS => ?_)
                subst h_39
                have hP : va_P g.1 vwCl [(aI g z1 3 nj), (oX5 t0 t1 t2 pw), (aI g t1 6 pd), (aI g t2 36 wb), (oX7 z0 y0 (nI n) (nI k2_34) 1 (nI k2_34) z1), (aB g y0 500 tp)] H := hP
                have hD : va_D A [(aI g z1 3 nj), (oX5 t0 t1 t2 pw), (aI g t1 6 pd), (aI g t2 36 wb), (oX7 z0 y0 (nI n) (nI k2_34) 1 (nI k2_34) z1), (aB g y0 500 tp)] := hD
                have hP := hP.sub (ws' := [(oX7 z0 y0 (nI n) (nI k2_34) 1 (nI k2_34) z1), (aB g y0 500 tp), (aI g z1 3 nj), (oX5 t0 t1 t2 pw), (aI g t1 6 pd), (aI g t2 36 wb)]) [4, 5, 0, 1, 2, 3] rfl
                have hD := hD.sub (ws' := [(oX7 z0 y0 (nI n) (nI k2_34) 1 (nI k2_34) z1), (aB g y0 500 tp), (aI g z1 3 nj), (oX5 t0 t1 t2 pw), (aI g t1 6 pd), (aI g t2 36 wb)]) [4, 5, 0, 1, 2, 3] (by decide) rfl
                exact he_rz hQ hx hb hr hlk hP hD hS dX7_readPart_154 (Nat.le_of_ble_eq_true rfl) (Nat.le_of_ble_eq_true rfl) rfl ((k2_34, 1, nI k2_34, nj, pd, wb)) (rfl) (⟨by (try dsimp only); omega, by (try dsimp only); omega, Or.inl rfl, hpd, hwb⟩)
              refine lv_aload_n hx hb dX7_readPart_120 rfl (lv_at hl 0 rfl) ?_
              refine va_get (v := .int (nI k2_34)) (T := TX7) (N := 6) hx hb hts inX7 hown hK hP 4 rfl rfl 2 (by decide) f32 (fun _ h9 => h9) rfl dX7_readPart_121 ?_
              refine lv_aload_n hx hb dX7_readPart_124 rfl (lv_at hl 0 rfl) ?_
              refine va_get (v := .int (nI n)) (T := TX7) (N := 6) hx hb hts inX7 hown hK hP 4 rfl rfl 1 (by decide) f29 (fun _ h9 => h9) rfl dX7_readPart_125 ?_
              refine lv_icmp_ge (tgt := 145) hx hb dX7_readPart_128 (by decide) (fun c_40 => ?_) (fun c_40 => ?_)
              · have k_41 : n ≤ k2_34 := (he_cle (a := n) (b := k2_34) rfl rfl (by omega) (by omega)).mp c_40
                exact join145 ()  _ _ _ hP hD hS (lv_sub hl [0, 1, 2, 3, 4, 5] rfl)
              · have k_42 : ¬ (n ≤ k2_34) := fun h9 => c_40 ((he_cle (a := n) (b := k2_34) rfl rfl (by omega) (by omega)).mpr h9)
                refine lv_aload_n hx hb dX7_readPart_131 rfl (lv_at hl 0 rfl) ?_
                refine va_get (v := .ref y0) (T := TX7) (N := 6) hx hb hts inX7 hown hK hP 4 rfl rfl 0 (by decide) f9 (fun _ h9 => h9) rfl dX7_readPart_132 ?_
                refine lv_aload_n hx hb dX7_readPart_135 rfl (lv_at hl 0 rfl) ?_
                refine va_get (v := .int (nI k2_34)) (T := TX7) (N := 6) hx hb hts inX7 hown hK hP 4 rfl rfl 2 (by decide) f32 (fun _ h9 => h9) rfl dX7_readPart_136 ?_
                refine he_bald hx hb hK hP 5 rfl (k2_34) rfl (by first | assumption | decide | omega) (by first | decide | assumption) (tp k2_34) rfl dX7_readPart_139 ?_
                refine lv_bipush (v := 59) hx hb dX7_readPart_140 (by decide) ?_
                refine lv_icmp_eq (tgt := 155) hx hb dX7_readPart_142 (by decide) (fun c_43 => ?_) (fun c_43 => ?_)
                · refine lv_aload_n hx hb dX7_readPart_155 rfl (lv_at hl 0 rfl) ?_
                  refine lv_dup hx hb dX7_readPart_156 rfl ?_
                  refine va_get (v := .int (nI k2_34)) (T := TX7) (N := 6) hx hb hts inX7 hown hK hP 4 rfl rfl 2 (by decide) f32 (fun _ h9 => h9) rfl dX7_readPart_157 ?_
                  refine lv_iconst (v := 1) hx hb dX7_readPart_160 (by decide) ?_
                  refine lv_iadd hx hb dX7_readPart_161 ?_
                  refine he_top (nI (k2_34 + 1)) (nI_add k2_34 1) ?_
                  refine va_put (v := .int (nI (k2_34 + 1))) (ty := .int) (T := TX7) (N := 6) hx hb hts inX7 tyX7 tyX7_ok nmX7 hown hK hP hD hS 4 rfl rfl 2 (by decide) f32 (fun _ h9 => h9) rfl (by decide +kernel) rfl rfl (Nat.le_of_ble_eq_true rfl) dX7_readPart_162 (fun H locs hP hD hS => ?_)
                  have hP : va_P g.1 vwCl [(aI g z1 3 nj), (oX5 t0 t1 t2 pw), (aI g t1 6 pd), (aI g t2 36 wb), (oX7 z0 y0 (nI n) (nI (k2_34 + 1)) fj pj z1), (aB g y0 500 tp)] H := hP
                  have hD : va_D A [(aI g z1 3 nj), (oX5 t0 t1 t2 pw), (aI g t1 6 pd), (aI g t2 36 wb), (oX7 z0 y0 (nI n) (nI (k2_34 + 1)) fj pj z1), (aB g y0 500 tp)] := hD
                  refine lv_aload_n hx hb dX7_readPart_165 rfl (lv_at hl 1 rfl) ?_
                  refine lv_iload hx hb dX7_readPart_166 (lv_at hl 3 rfl) ?_
                  refine lv_aload_n hx hb dX7_readPart_168 rfl (lv_at hl 0 rfl) ?_
                  refine va_get (v := .ref z1) (T := TX7) (N := 6) hx hb hts inX7 hown hK hP 4 rfl rfl 5 (by decide) f19 (fun _ h9 => h9) rfl dX7_readPart_169 ?_
                  refine he_cv (wc := [(oX5 t0 t1 t2 pw), (aI g t1 6 pd), (aI g t2 36 wb), (aI g z1 3 nj)]) (wr := [(oX7 z0 y0 (nI n) (nI (k2_34 + 1)) fj pj z1), (aB g y0 500 tp)]) (va_runU (As := [.int r_10, .ref z1]) (rest := []) ⟨hx, hb, hml, hown, hts⟩ (g_X5_store l g t0 t1 t2 pw pd wb z1 nj r_10 (by first | assumption | decide | omega) (by first | assumption | decide | omega) (fun h9 => rd_3 h9 hn1) (fun h9 => rd_6 h9 hn1) H.size) (va_cwA 2 hts gX7_readPart_X5_store_u83X5 rfl rfl rfl dc83 (by decide +kernel) ⟨Nat.le_of_ble_eq_true rfl, Nat.le_of_ble_eq_true rfl⟩) (he_preV (wc := [(oX5 t0 t1 t2 pw), (aI g t1 6 pd), (aI g t2 36 wb), (aI g z1 3 nj)]) hK hP hD hS hA hE [1, 2, 3, 0] rfl rfl 1 rfl rfl) rfl rfl hl.1 rfl (lv_room (Nat.le_of_ble_eq_true rfl)) dX7_readPart_172 ⟨(Nat.le_of_ble_eq_true rfl), (Nat.le_of_ble_eq_true rfl)⟩) hP hD hS hA [1, 2, 3, 0] [4, 5] rfl rfl rfl (by decide) (fun u_45 H locs h_46 hP hD hS => ?_)
                  obtain ⟨ud_47, ub_48⟩ := u_45
                  try dsimp only at h_46
                  obtain ⟨hf_49, hf_50⟩ := h_46
                  have hP : va_P g.1 vwCl [(oX7 z0 y0 (nI n) (nI (k2_34 + 1)) fj pj z1), (aB g y0 500 tp), (oX5 t0 t1 t2 pw), (aI g t1 6 ud_47), (aI g t2 36 ub_48), (aI g z1 3 nj)] H := hP
                  have hD : va_D A [(oX7 z0 y0 (nI n) (nI (k2_34 + 1)) fj pj z1), (aB g y0 500 tp), (oX5 t0 t1 t2 pw), (aI g t1 6 ud_47), (aI g t2 36 ub_48), (aI g z1 3 nj)] := hD
                  refine lv_iconst (v := 1) hx hb dX7_readPart_175 (by decide) ?_
                  have hP := hP.sub (ws' := [(oX7 z0 y0 (nI n) (nI (k2_34 + 1)) fj pj z1), (aB g y0 500 tp), (aI g z1 3 nj), (oX5 t0 t1 t2 pw), (aI g t1 6 ud_47), (aI g t2 36 ub_48)]) [0, 1, 5, 2, 3, 4] rfl
                  have hD := hD.sub (ws' := [(oX7 z0 y0 (nI n) (nI (k2_34 + 1)) fj pj z1), (aB g y0 500 tp), (aI g z1 3 nj), (oX5 t0 t1 t2 pw), (aI g t1 6 ud_47), (aI g t2 36 ub_48)]) [0, 1, 5, 2, 3, 4] (by decide) rfl
                  exact he_rz hQ hx hb hr hlk hP hD hS dX7_readPart_176 (Nat.le_of_ble_eq_true rfl) (Nat.le_of_ble_eq_true rfl) rfl ((k2_34 + 1, fj, pj, nj, ud_47, ub_48)) (rfl) (⟨by (try dsimp only); omega, by (try dsimp only); omega, Or.inr rfl, hf_49, hf_50⟩)
                · exact join145 ()  _ _ _ hP hD hS (lv_sub hl [0, 1, 2, 3, 4, 5] rfl)
            · have hj3 : j < 3 := min3 (by omega) c_30
              refine lv_aload_n hx hb dX7_readPart_83 rfl (lv_at hl 0 rfl) ?_
              refine lv_iload hx hb dX7_readPart_84 (lv_at hl 5 rfl) ?_
              refine lv_aload_n hx hb dX7_readPart_86 rfl (lv_at hl 1 rfl) ?_
              refine lv_iload hx hb dX7_readPart_87 (lv_at hl 3 rfl) ?_
              refine lv_iload hx hb dX7_readPart_89 (lv_at hl 5 rfl) ?_
              refine he_ci (wc := [(oX5 t0 t1 t2 pw)]) (wr := [(oX7 z0 y0 (nI n) (nI kj) fj pj z1), (aB g y0 500 tp), (aI g z1 3 nj), (aI g t1 6 pd), (aI g t2 36 wb)]) (va_runU (As := [.int r_10, .int (nI j)]) (rest := [.int (nI j), .ref z0]) ⟨hx, hb, hml, hown, hts⟩ (g_X5_low l g t0 t1 t2 pw r_10 (nI j) H.size) (va_cwA 2 hts gX7_readPart_X5_low_u73X5 rfl rfl rfl dc73 (by decide +kernel) ⟨Nat.le_of_ble_eq_true rfl, Nat.le_of_ble_eq_true rfl⟩) (he_preV (wc := [(oX5 t0 t1 t2 pw)]) hK hP hD hS hA hE [3] rfl rfl 3 rfl rfl) rfl rfl hl.1 rfl (lv_room (Nat.le_of_ble_eq_true rfl)) dX7_readPart_91 ⟨(Nat.le_of_ble_eq_true rfl), (Nat.le_of_ble_eq_true rfl)⟩) hP hD hS hA [3] [0, 1, 2, 4, 5] rfl rfl rfl (by decide) (fun r_51 u_52 H locs h_53 hP hD hS => ?_)
              subst h_53
              have hP : va_P g.1 vwCl [(oX7 z0 y0 (nI n) (nI kj) fj pj z1), (aB g y0 500 tp), (aI g z1 3 nj), (aI g t1 6 pd), (aI g t2 36 wb), (oX5 t0 t1 t2 pw)] H := hP
              have hD : va_D A [(oX7 z0 y0 (nI n) (nI kj) fj pj z1), (aB g y0 500 tp), (aI g z1 3 nj), (aI g t1 6 pd), (aI g t2 36 wb), (oX5 t0 t1 t2 pw)] := hD
              refine lv_aload_n hx hb dX7_readPart_94 rfl (lv_at hl 1 rfl) ?_
              refine lv_iload hx hb dX7_readPart_95 (lv_at hl 3 rfl) ?_
              refine lv_iload hx hb dX7_readPart_97 (lv_at hl 5 rfl) ?_
              refine he_ci (wc := [(oX5 t0 t1 t2 pw)]) (wr := [(oX7 z0 y0 (nI n) (nI kj) fj pj z1), (aB g y0 500 tp), (aI g z1 3 nj), (aI g t1 6 pd), (aI g t2 36 wb)]) (va_runU (As := [.int r_10, .int (nI j)]) (rest := [.int (loP r_10), .int (nI j), .ref z0]) ⟨hx, hb, hml, hown, hts⟩ (g_X5_high l g t0 t1 t2 pw r_10 (nI j) H.size) (va_cwA 2 hts gX7_readPart_X5_high_u76X5 rfl rfl rfl dc76 (by decide +kernel) ⟨Nat.le_of_ble_eq_true rfl, Nat.le_of_ble_eq_true rfl⟩) (he_preV (wc := [(oX5 t0 t1 t2 pw)]) hK hP hD hS hA hE [5] rfl rfl 5 rfl rfl) rfl rfl hl.1 rfl (lv_room (Nat.le_of_ble_eq_true rfl)) dX7_readPart_99 ⟨(Nat.le_of_ble_eq_true rfl), (Nat.le_of_ble_eq_true rfl)⟩) hP hD hS hA [5] [0, 1, 2, 3, 4] rfl rfl rfl (by decide) (fun r_54 u_55 H locs h_56 hP hD hS => ?_)
              subst h_56
              have hP : va_P g.1 vwCl [(oX7 z0 y0 (nI n) (nI kj) fj pj z1), (aB g y0 500 tp), (aI g z1 3 nj), (aI g t1 6 pd), (aI g t2 36 wb), (oX5 t0 t1 t2 pw)] H := hP
              have hD : va_D A [(oX7 z0 y0 (nI n) (nI kj) fj pj z1), (aB g y0 500 tp), (aI g z1 3 nj), (aI g t1 6 pd), (aI g t2 36 wb), (oX5 t0 t1 t2 pw)] := hD
              refine he_ci (wc := [(oX7 z0 y0 (nI n) (nI kj) fj pj z1), (aB g y0 500 tp), (aI g z1 3 nj)]) (wr := [(aI g t1 6 pd), (aI g t2 36 wb), (oX5 t0 t1 t2 pw)]) (va_runV (As := [.int (nI j), .int (loP r_10), .int (hiP r_10 (nI j) pw)]) (rest := []) ⟨hx, hb, hml, hown, hts⟩ (g_X7_readNumber l g z0 z1 y0 n kj fj pj tp nj j (loP r_10) (hiP r_10 (nI j) pw) (by first | assumption | decide | omega) (by first | assumption | decide | omega) (by first | assumption | decide | omega) H.size) (cwV 3 hts gX7_readPart_X7_readNumber rfl rfl rfl (by decide +kernel) ⟨Nat.le_of_ble_eq_true rfl, Nat.le_of_ble_eq_true rfl⟩) (he_preV (wc := [(oX7 z0 y0 (nI n) (nI kj) fj pj z1), (aB g y0 500 tp), (aI g z1 3 nj)]) hK hP hD hS hA hE [0, 1, 2] rfl rfl 0 rfl rfl) rfl rfl hl.1 rfl (lv_room (Nat.le_of_ble_eq_true rfl)) dX7_readPart_102 ⟨(Nat.le_of_ble_eq_true rfl), (Nat.le_of_ble_eq_true rfl)⟩) hP hD hS hA [0, 1, 2] [3, 4, 5] rfl rfl rfl (by decide) (fun r_57 u_58 H locs h_59 hP hD hS => ?_)
              obtain ⟨k2_60, fb_61, pb_62, nv_63⟩ := u_58
              try dsimp only at h_59
              obtain ⟨hf_64, hf_65, hf_66⟩ := h_59
              have hP : va_P g.1 vwCl [(aI g t1 6 pd), (aI g t2 36 wb), (oX5 t0 t1 t2 pw), (oX7 z0 y0 (nI n) (nI k2_60) fb_61 pb_62 z1), (aB g y0 500 tp), (aI g z1 3 nv_63)] H := hP
              have hD : va_D A [(aI g t1 6 pd), (aI g t2 36 wb), (oX5 t0 t1 t2 pw), (oX7 z0 y0 (nI n) (nI k2_60) fb_61 pb_62 z1), (aB g y0 500 tp), (aI g z1 3 nv_63)] := hD
              refine lv_if_ne (tgt := 110) hx hb dX7_readPart_105 (by decide) (fun c_67 => ?_) (fun c_67 => ?_)
              · refine lv_iinc (v := nI (j + 1)) (lv' := [(6, .int (nI (j + 1))), (0, .ref z0), (1, .ref t0), (3, .int (nI k)), (4, .int r_10), (5, .int (if 3 < r_25 then 3 else r_25))]) hx hb dX7_readPart_110 hl (k := 5) rfl (nI_1 j) (by decide) rfl (fun ls hl => ?_)
                refine lv_goto (tgt := 76) hx hb dX7_readPart_113 (by decide) ?_
                exact ih76 (j + 1) k2_60 fb_61 pb_62 nv_63 (by omega) (by omega) (by omega) (by omega) (rd_step hn0 hf_66 c_67) _ _ _ (hP.sub [3, 4, 5, 2, 0, 1] rfl) (hD.sub [3, 4, 5, 2, 0, 1] (by decide) rfl) hS (lv_sub hl [1, 2, 3, 4, 5, 0] rfl)
              · refine lv_iconst (v := 0) hx hb dX7_readPart_108 (by decide) ?_
                have hP := hP.sub (ws' := [(oX7 z0 y0 (nI n) (nI k2_60) fb_61 pb_62 z1), (aB g y0 500 tp), (aI g z1 3 nv_63), (oX5 t0 t1 t2 pw), (aI g t1 6 pd), (aI g t2 36 wb)]) [3, 4, 5, 2, 0, 1] rfl
                have hD := hD.sub (ws' := [(oX7 z0 y0 (nI n) (nI k2_60) fb_61 pb_62 z1), (aB g y0 500 tp), (aI g z1 3 nv_63), (oX5 t0 t1 t2 pw), (aI g t1 6 pd), (aI g t2 36 wb)]) [3, 4, 5, 2, 0, 1] (by decide) rfl
                exact he_rz hQ hx hb hr hlk hP hD hS dX7_readPart_109 (Nat.le_of_ble_eq_true rfl) (Nat.le_of_ble_eq_true rfl) rfl ((k2_60, fb_61, pb_62, nv_63, pd, wb)) (rfl) (⟨by (try dsimp only); omega, by (try dsimp only); omega, Or.inl rfl, hpd, hwb⟩)
        exact loop76 ((3 - 0) + 1) 0 k2_4 fa pl nu (Nat.lt_succ_self _) (Nat.zero_le _) (by omega) (by omega) (Or.inl rfl) _ _ _ (hP.sub [3, 4, 0, 5, 1, 2] rfl) (hD.sub [3, 4, 0, 5, 1, 2] (by decide) rfl) hS (lv_sub hl [4, 5, 3, 2, 1, 0] rfl)
      · exact join50 ()  _ _ _ (hP.sub [0, 1, 2, 5, 3, 4] rfl) (hD.sub [0, 1, 2, 5, 3, 4] (by decide) rfl) hS (lv_sub hl [0, 1, 2, 3, 4] rfl)
  · refine lv_aload_n hx hb dX7_readPart_26 rfl (lv_at hl 2 rfl) ?_
    refine lv_iconst (v := 1) hx hb dX7_readPart_27 (by decide) ?_
    refine lv_iload_n hx hb dX7_readPart_28 rfl (lv_at hl 1 rfl) ?_
    refine he_ci (wc := [(oX7 z0 y0 (nI n) (nI k2_4) fa pl z1), (aB g y0 500 tp)]) (wr := [(aI g z1 3 nu), (aI g t1 6 pd), (aI g t2 36 wb), (oX5 t0 t1 t2 pw)]) (va_runV (As := [.int 1, .int (nI k)]) (rest := []) ⟨hx, hb, hml, hown, hts⟩ (g_X7_fail l g z0 z1 y0 n k2_4 fa pl tp 1 (nI k) H.size) (cwV 2 hts gX7_readPart_X7_fail rfl rfl rfl (by decide +kernel) ⟨Nat.le_of_ble_eq_true rfl, Nat.le_of_ble_eq_true rfl⟩) (he_preV (wc := [(oX7 z0 y0 (nI n) (nI k2_4) fa pl z1), (aB g y0 500 tp)]) hK hP hD hS hA hE [4, 5] rfl rfl 4 rfl rfl) rfl rfl hl.1 rfl (lv_room (Nat.le_of_ble_eq_true rfl)) dX7_readPart_29 ⟨(Nat.le_of_ble_eq_true rfl), (Nat.le_of_ble_eq_true rfl)⟩) hP hD hS hA [4, 5] [0, 1, 2, 3] rfl rfl rfl (by decide) (fun r_68 u_69 H locs h_70 hP hD hS => ?_)
    subst h_70
    have hP : va_P g.1 vwCl [(aI g z1 3 nu), (aI g t1 6 pd), (aI g t2 36 wb), (oX5 t0 t1 t2 pw), (oX7 z0 y0 (nI n) (nI k2_4) 1 (nI k) z1), (aB g y0 500 tp)] H := hP
    have hD : va_D A [(aI g z1 3 nu), (aI g t1 6 pd), (aI g t2 36 wb), (oX5 t0 t1 t2 pw), (oX7 z0 y0 (nI n) (nI k2_4) 1 (nI k) z1), (aB g y0 500 tp)] := hD
    have hP := hP.sub (ws' := [(oX7 z0 y0 (nI n) (nI k2_4) 1 (nI k) z1), (aB g y0 500 tp), (aI g z1 3 nu), (oX5 t0 t1 t2 pw), (aI g t1 6 pd), (aI g t2 36 wb)]) [4, 5, 0, 3, 1, 2] rfl
    have hD := hD.sub (ws' := [(oX7 z0 y0 (nI n) (nI k2_4) 1 (nI k) z1), (aB g y0 500 tp), (aI g z1 3 nu), (oX5 t0 t1 t2 pw), (aI g t1 6 pd), (aI g t2 36 wb)]) [4, 5, 0, 3, 1, 2] (by decide) rfl
    exact he_rz hQ hx hb hr hlk hP hD hS dX7_readPart_32 (Nat.le_of_ble_eq_true rfl) (Nat.le_of_ble_eq_true rfl) rfl ((k2_4, 1, nI k, nu, pd, wb)) (rfl) (⟨by (try dsimp only); omega, by (try dsimp only); omega, Or.inl rfl, hpd, hwb⟩)
set_option maxHeartbeats 4000000 in
set_option maxRecDepth 100000 in
theorem g_X7_read5 (l : Launch) (g : he_G) (z0 : Nat) (z1 : Nat) (y0 : Nat) (n : Nat) (y1 : Nat) (n1 : Int32) (at1 : Int32) (fa : Int32) (pl : Int32) (tp : Nat → Int32) (nu : Nat → Int32) (t0 : Nat) (t1 : Nat) (t2 : Nat) (pw : Int32) (pd : Nat → Int32) (wb : Nat → Int32) (hn : n ≤ 500) (hpd : (∃ ck, ck ≤ 99 ∧ pd 3 = nI ck)) (hwb : (∀ k, k < 36 → -1 ≤ wb k)) : he_I l yX7_read wsX7_read 7 161 0 0 g [.ref z0, .ref y0, .int (nI n), .ref t0] [(oX7 z0 y1 n1 at1 fa pl z1), (aB g y0 500 tp), (aI g z1 3 nu), (oX5 t0 t1 t2 pw), (aI g t1 6 pd), (aI g t2 36 wb)] (fun (r : Int32) (u : Nat × Int32 × Int32 × (Nat → Int32) × (Nat → Int32) × (Nat → Int32)) => r = u.2.1 ∧ u.1 ≤ n ∧ (∃ ck, ck ≤ 99 ∧ u.2.2.2.2.1 3 = nI ck) ∧ ((∀ k, k < 36 → -1 ≤ u.2.2.2.2.2 k))) (fun (u : Nat × Int32 × Int32 × (Nat → Int32) × (Nat → Int32) × (Nat → Int32)) => [(oX7 z0 y0 (nI n) (nI u.1) u.2.1 u.2.2.1 z1), (aB g y0 500 tp), (aI g z1 3 u.2.2.2.1), (oX5 t0 t1 t2 pw), (aI g t1 6 u.2.2.2.2.1), (aI g t2 36 u.2.2.2.2.2)]) := by
  refine he_begin (l := l) (g := g) (y := yX7_read) (wl := wsX7_read) (fr := 7) (lo := 161) (mc := 0) (ms := 0) (av := [.ref z0, .ref y0, .int (nI n), .ref t0]) (ws := [(oX7 z0 y1 n1 at1 fa pl z1), (aB g y0 500 tp), (aI g z1 3 nu), (oX5 t0 t1 t2 pw), (aI g t1 6 pd), (aI g t2 36 wb)]) (cc := cX7_read) (maxL := 5) (ret := (some .int)) (fun A => va_Qi (fun (r : Int32) (u : Nat × Int32 × Int32 × (Nat → Int32) × (Nat → Int32) × (Nat → Int32)) => r = u.2.1 ∧ u.1 ≤ n ∧ (∃ ck, ck ≤ 99 ∧ u.2.2.2.2.1 3 = nI ck) ∧ ((∀ k, k < 36 → -1 ≤ u.2.2.2.2.2 k))) (fun u t => he_post g A ((fun (u : Nat × Int32 × Int32 × (Nat → Int32) × (Nat → Int32) × (Nat → Int32)) => [(oX7 z0 y0 (nI n) (nI u.1) u.2.1 u.2.2.1 z1), (aB g y0 500 tp), (aI g z1 3 u.2.2.2.1), (oX5 t0 t1 t2 pw), (aI g t1 6 u.2.2.2.2.1), (aI g t2 36 u.2.2.2.2.2)]) u) t) A) (by decide) rfl (Nat.le_of_ble_eq_true rfl) ?_
  intro p e s m args below meth c A ls H locs Q hQ hB
  obtain ⟨hx, hb, hr, hml, hown, hts, hlk, hin, hP, hK, hD, hS, hA, hE, hl⟩ := hB
  have hl : lv_has ls 5 [(0, .ref z0), (1, .ref y0), (2, .int (nI n)), (3, .ref t0)] := hl
  have f9 := hts (.fieldLink RX7 9 "HiredEnemy$Reader" "bytes" "[B") (iwoX7_read (k := 0) rfl)
  have inX7 : ∀ w ∈ wsX70, w ∈ wsX7_read := innX7_read_X7
  have ml23 := hts (.methodLink RX7 23 Lib.Math.min.name) (iwoX7_read (k := 1) rfl)
  have msmin := hts (.static Lib.Math.min.name) (iwoX7_read (k := 2) rfl)
  have mi := hts (.initialized "java/lang/Math") (iwoX7_read (k := 3) rfl)
  have mcmin := hts (.code Lib.Math.min.name Lib.Math.min.code 2 (some .int)) (by decide +kernel)
  have f29 := hts (.fieldLink RX7 29 "HiredEnemy$Reader" "length" "I") (iwoX7_read (k := 4) rfl)
  have f32 := hts (.fieldLink RX7 32 "HiredEnemy$Reader" "at" "I") (iwoX7_read (k := 5) rfl)
  have f35 := hts (.fieldLink RX7 35 "HiredEnemy$Reader" "fault" "I") (iwoX7_read (k := 6) rfl)
  have f15 := hts (.fieldLink RX7 15 "HiredEnemy$Reader" "place" "I") (iwoX7_read (k := 7) rfl)
  have dc38 := hE.decl ⟨RX9, "mostParts", "()I"⟩ (by decide +kernel)
  refine lv_aload_n hx hb dX7_read_0 rfl (lv_at hl 0 rfl) ?_
  refine lv_aload_n hx hb dX7_read_1 rfl (lv_at hl 1 rfl) ?_
  refine va_put (v := .ref y0) (ty := tyX7 0) (T := TX7) (N := 6) hx hb hts inX7 tyX7 tyX7_ok nmX7 hown hK hP hD hS 0 rfl rfl 0 (by decide) f9 (fun _ h9 => h9) rfl (by decide +kernel) rfl rfl (Nat.le_of_ble_eq_true rfl) dX7_read_2 (fun H locs hP hD hS => ?_)
  have hP : va_P g.1 vwCl [(oX7 z0 y0 n1 at1 fa pl z1), (aB g y0 500 tp), (aI g z1 3 nu), (oX5 t0 t1 t2 pw), (aI g t1 6 pd), (aI g t2 36 wb)] H := hP
  have hD : va_D A [(oX7 z0 y0 n1 at1 fa pl z1), (aB g y0 500 tp), (aI g z1 3 nu), (oX5 t0 t1 t2 pw), (aI g t1 6 pd), (aI g t2 36 wb)] := hD
  refine lv_aload_n hx hb dX7_read_5 rfl (lv_at hl 0 rfl) ?_
  refine lv_iload_n hx hb dX7_read_6 rfl (lv_at hl 2 rfl) ?_
  refine lv_aload_n hx hb dX7_read_7 rfl (lv_at hl 1 rfl) ?_
  refine va_alen (v := 500) hx hb hK hP 1 0 rfl rfl rfl dX7_read_8 ?_
  refine va_mmin hx hb (by rw [hml]; exact hl.1.symm) hown ml23 msmin mi mcmin (by decide) (Nat.le_of_ble_eq_true rfl) (Nat.le_of_ble_eq_true rfl) (Nat.le_of_ble_eq_true rfl) dX7_read_9 ?_
  refine he_top (nI n) (he_min500 hn) ?_
  refine va_put (v := .int (nI n)) (ty := .int) (T := TX7) (N := 6) hx hb hts inX7 tyX7 tyX7_ok nmX7 hown hK hP hD hS 0 rfl rfl 1 (by decide) f29 (fun _ h9 => h9) rfl (by decide +kernel) rfl rfl (Nat.le_of_ble_eq_true rfl) dX7_read_12 (fun H locs hP hD hS => ?_)
  have hP : va_P g.1 vwCl [(oX7 z0 y0 (nI n) at1 fa pl z1), (aB g y0 500 tp), (aI g z1 3 nu), (oX5 t0 t1 t2 pw), (aI g t1 6 pd), (aI g t2 36 wb)] H := hP
  have hD : va_D A [(oX7 z0 y0 (nI n) at1 fa pl z1), (aB g y0 500 tp), (aI g z1 3 nu), (oX5 t0 t1 t2 pw), (aI g t1 6 pd), (aI g t2 36 wb)] := hD
  refine lv_aload_n hx hb dX7_read_15 rfl (lv_at hl 0 rfl) ?_
  refine lv_iconst (v := 0) hx hb dX7_read_16 (by decide) ?_
  refine va_put (v := .int 0) (ty := .int) (T := TX7) (N := 6) hx hb hts inX7 tyX7 tyX7_ok nmX7 hown hK hP hD hS 0 rfl rfl 2 (by decide) f32 (fun _ h9 => h9) rfl (by decide +kernel) rfl rfl (Nat.le_of_ble_eq_true rfl) dX7_read_17 (fun H locs hP hD hS => ?_)
  have hP : va_P g.1 vwCl [(oX7 z0 y0 (nI n) 0 fa pl z1), (aB g y0 500 tp), (aI g z1 3 nu), (oX5 t0 t1 t2 pw), (aI g t1 6 pd), (aI g t2 36 wb)] H := hP
  have hD : va_D A [(oX7 z0 y0 (nI n) 0 fa pl z1), (aB g y0 500 tp), (aI g z1 3 nu), (oX5 t0 t1 t2 pw), (aI g t1 6 pd), (aI g t2 36 wb)] := hD
  refine lv_aload_n hx hb dX7_read_20 rfl (lv_at hl 0 rfl) ?_
  refine lv_iconst (v := 0) hx hb dX7_read_21 (by decide) ?_
  refine va_put (v := .int 0) (ty := .int) (T := TX7) (N := 6) hx hb hts inX7 tyX7 tyX7_ok nmX7 hown hK hP hD hS 0 rfl rfl 3 (by decide) f35 (fun _ h9 => h9) rfl (by decide +kernel) rfl rfl (Nat.le_of_ble_eq_true rfl) dX7_read_22 (fun H locs hP hD hS => ?_)
  have hP : va_P g.1 vwCl [(oX7 z0 y0 (nI n) 0 0 pl z1), (aB g y0 500 tp), (aI g z1 3 nu), (oX5 t0 t1 t2 pw), (aI g t1 6 pd), (aI g t2 36 wb)] H := hP
  have hD : va_D A [(oX7 z0 y0 (nI n) 0 0 pl z1), (aB g y0 500 tp), (aI g z1 3 nu), (oX5 t0 t1 t2 pw), (aI g t1 6 pd), (aI g t2 36 wb)] := hD
  refine lv_aload_n hx hb dX7_read_25 rfl (lv_at hl 0 rfl) ?_
  refine lv_iconst (v := (-1)) hx hb dX7_read_26 (by decide) ?_
  refine va_put (v := .int (-1)) (ty := .int) (T := TX7) (N := 6) hx hb hts inX7 tyX7 tyX7_ok nmX7 hown hK hP hD hS 0 rfl rfl 4 (by decide) f15 (fun _ h9 => h9) rfl (by decide +kernel) rfl rfl (Nat.le_of_ble_eq_true rfl) dX7_read_27 (fun H locs hP hD hS => ?_)
  have hP : va_P g.1 vwCl [(oX7 z0 y0 (nI n) 0 0 (-1) z1), (aB g y0 500 tp), (aI g z1 3 nu), (oX5 t0 t1 t2 pw), (aI g t1 6 pd), (aI g t2 36 wb)] H := hP
  have hD : va_D A [(oX7 z0 y0 (nI n) 0 0 (-1) z1), (aB g y0 500 tp), (aI g z1 3 nu), (oX5 t0 t1 t2 pw), (aI g t1 6 pd), (aI g t2 36 wb)] := hD
  refine lv_iconst (v := 0) hx hb dX7_read_30 (by decide) ?_
  refine lv_istore (lv' := [(4, .int 0), (0, .ref z0), (1, .ref y0), (2, .int (nI n)), (3, .ref t0)]) hx hb dX7_read_31 hl (by decide) rfl (fun ls hl => ?_)
  have loop33 : ∀ (n9 : Nat) (j : Nat) (kj : Nat) (fj : Int32) (pj : Int32) (nj : Nat → Int32) (dj : Nat → Int32) (bj : Nat → Int32), 21 - j < n9 → (j ≤ 21) → (kj ≤ n) → ((∃ ck, ck ≤ 99 ∧ dj 3 = nI ck)) → ((∀ k, k < 36 → -1 ≤ bj k)) → ∀ (H : Heap) (locs : List Loc) (ls : Array Slot), va_P g.1 vwCl [(oX7 z0 y0 (nI n) (nI kj) fj pj z1), (aB g y0 500 tp), (aI g z1 3 nj), (oX5 t0 t1 t2 pw), (aI g t1 6 dj), (aI g t2 36 bj)] H → va_D A [(oX7 z0 y0 (nI n) (nI kj) fj pj z1), (aB g y0 500 tp), (aI g z1 3 nj), (oX5 t0 t1 t2 pw), (aI g t1 6 dj), (aI g t2 36 bj)] → va_S A s.heap H locs → lv_has ls 5 [(0, .ref z0), (3, .ref t0), (4, .int (nI j))] → W p l e (he_room 7 161 0 0) s m args below meth c H locs 0 0 Q (F0 m 33 ls []) := by
    intro n9
    induction n9 with
    | zero => intro j kj fj pj nj dj bj hm9; exact absurd hm9 (Nat.not_lt_zero _)
    | succ n9 ih33 =>
      intro j kj fj pj nj dj bj hm9 hj hkn hdj hbj H locs ls hP hD hS hl
      refine lv_iload hx hb dX7_read_33 (lv_at hl 2 rfl) ?_
      refine lv_aload_n hx hb dX7_read_35 rfl (lv_at hl 1 rfl) ?_
      refine he_ci (wc := [(oX5 t0 t1 t2 pw)]) (wr := [(oX7 z0 y0 (nI n) (nI kj) fj pj z1), (aB g y0 500 tp), (aI g z1 3 nj), (aI g t1 6 dj), (aI g t2 36 bj)]) (va_runU (As := []) (rest := [.int (nI j)]) ⟨hx, hb, hml, hown, hts⟩ (c_X5_mostParts l g t0 t1 t2 pw H.size) (va_cwA 0 hts gX7_read_X5_mostParts_u38X5 rfl rfl rfl dc38 (by decide +kernel) ⟨Nat.le_of_ble_eq_true rfl, Nat.le_of_ble_eq_true rfl⟩) (he_preV (wc := [(oX5 t0 t1 t2 pw)]) hK hP hD hS hA hE [3] rfl rfl 3 rfl rfl) rfl rfl hl.1 rfl (lv_room (Nat.le_of_ble_eq_true rfl)) dX7_read_36 ⟨(Nat.le_of_ble_eq_true rfl), (Nat.le_of_ble_eq_true rfl)⟩) hP hD hS hA [3] [0, 1, 2, 4, 5] rfl rfl rfl (by decide) (fun r_1 u_2 H locs h_3 hP hD hS => ?_)
      subst h_3
      have hP : va_P g.1 vwCl [(oX7 z0 y0 (nI n) (nI kj) fj pj z1), (aB g y0 500 tp), (aI g z1 3 nj), (aI g t1 6 dj), (aI g t2 36 bj), (oX5 t0 t1 t2 pw)] H := hP
      have hD : va_D A [(oX7 z0 y0 (nI n) (nI kj) fj pj z1), (aB g y0 500 tp), (aI g z1 3 nj), (aI g t1 6 dj), (aI g t2 36 bj), (oX5 t0 t1 t2 pw)] := hD
      refine lv_icmp_gt (tgt := 76) hx hb dX7_read_39 (by decide) (fun c_4 => ?_) (fun c_4 => ?_)
      · have k_5 : 20 < j := (he_clt (a := 20) (b := j) (by decide) rfl (by omega) (by omega)).mp c_4
        refine lv_aload_n hx hb dX7_read_76 rfl (lv_at hl 0 rfl) ?_
        refine va_get (v := .int fj) (T := TX7) (N := 6) hx hb hts inX7 hown hK hP 0 rfl rfl 3 (by decide) f35 (fun _ h9 => h9) rfl dX7_read_77 ?_
        have hP := hP.sub (ws' := [(oX7 z0 y0 (nI n) (nI kj) fj pj z1), (aB g y0 500 tp), (aI g z1 3 nj), (oX5 t0 t1 t2 pw), (aI g t1 6 dj), (aI g t2 36 bj)]) [0, 1, 2, 5, 3, 4] rfl
        have hD := hD.sub (ws' := [(oX7 z0 y0 (nI n) (nI kj) fj pj z1), (aB g y0 500 tp), (aI g z1 3 nj), (oX5 t0 t1 t2 pw), (aI g t1 6 dj), (aI g t2 36 bj)]) [0, 1, 2, 5, 3, 4] (by decide) rfl
        exact he_ri hQ hx hb hr hlk hP hD hS dX7_read_80 (Nat.le_of_ble_eq_true rfl) (Nat.le_of_ble_eq_true rfl) ((kj, fj, pj, nj, dj, bj)) (rfl) (⟨rfl, by (try dsimp only); omega, hdj, hbj⟩)
      · have k_6 : ¬ (20 < j) := fun h9 => c_4 ((he_clt (a := 20) (b := j) (by decide) rfl (by omega) (by omega)).mpr h9)
        refine lv_aload_n hx hb dX7_read_42 rfl (lv_at hl 0 rfl) ?_
        refine he_cv (wc := [(oX7 z0 y0 (nI n) (nI kj) fj pj z1), (aB g y0 500 tp)]) (wr := [(aI g z1 3 nj), (aI g t1 6 dj), (aI g t2 36 bj), (oX5 t0 t1 t2 pw)]) (va_runV (As := []) (rest := []) ⟨hx, hb, hml, hown, hts⟩ (g_X7_skipBlanks l g z0 z1 y0 n kj fj pj tp (by first | assumption | decide | omega) (by first | assumption | decide | omega) H.size) (cwV 0 hts gX7_read_X7_skipBlanks rfl rfl rfl (by decide +kernel) ⟨Nat.le_of_ble_eq_true rfl, Nat.le_of_ble_eq_true rfl⟩) (he_preV (wc := [(oX7 z0 y0 (nI n) (nI kj) fj pj z1), (aB g y0 500 tp)]) hK hP hD hS hA hE [0, 1] rfl rfl 0 rfl rfl) rfl rfl hl.1 rfl (lv_room (Nat.le_of_ble_eq_true rfl)) dX7_read_43 ⟨(Nat.le_of_ble_eq_true rfl), (Nat.le_of_ble_eq_true rfl)⟩) hP hD hS hA [0, 1] [2, 3, 4, 5] rfl rfl rfl (by decide) (fun u_8 H locs h_9 hP hD hS => ?_)
        obtain ⟨k2_10, rfl⟩ : ∃ z, z = u_8 := ⟨_, rfl⟩
        try dsimp only at h_9
        obtain ⟨hf_11, hf_12⟩ := h_9
        have hP : va_P g.1 vwCl [(aI g z1 3 nj), (aI g t1 6 dj), (aI g t2 36 bj), (oX5 t0 t1 t2 pw), (oX7 z0 y0 (nI n) (nI k2_10) fj pj z1), (aB g y0 500 tp)] H := hP
        have hD : va_D A [(aI g z1 3 nj), (aI g t1 6 dj), (aI g t2 36 bj), (oX5 t0 t1 t2 pw), (oX7 z0 y0 (nI n) (nI k2_10) fj pj z1), (aB g y0 500 tp)] := hD
        refine lv_aload_n hx hb dX7_read_46 rfl (lv_at hl 0 rfl) ?_
        refine va_get (v := .int (nI k2_10)) (T := TX7) (N := 6) hx hb hts inX7 hown hK hP 4 rfl rfl 2 (by decide) f32 (fun _ h9 => h9) rfl dX7_read_47 ?_
        refine lv_aload_n hx hb dX7_read_50 rfl (lv_at hl 0 rfl) ?_
        refine va_get (v := .int (nI n)) (T := TX7) (N := 6) hx hb hts inX7 hown hK hP 4 rfl rfl 1 (by decide) f29 (fun _ h9 => h9) rfl dX7_read_51 ?_
        refine lv_icmp_ge (tgt := 76) hx hb dX7_read_54 (by decide) (fun c_13 => ?_) (fun c_13 => ?_)
        · have k_14 : n ≤ k2_10 := (he_cle (a := n) (b := k2_10) rfl rfl (by omega) (by omega)).mp c_13
          refine lv_aload_n hx hb dX7_read_76 rfl (lv_at hl 0 rfl) ?_
          refine va_get (v := .int fj) (T := TX7) (N := 6) hx hb hts inX7 hown hK hP 4 rfl rfl 3 (by decide) f35 (fun _ h9 => h9) rfl dX7_read_77 ?_
          have hP := hP.sub (ws' := [(oX7 z0 y0 (nI n) (nI k2_10) fj pj z1), (aB g y0 500 tp), (aI g z1 3 nj), (oX5 t0 t1 t2 pw), (aI g t1 6 dj), (aI g t2 36 bj)]) [4, 5, 0, 3, 1, 2] rfl
          have hD := hD.sub (ws' := [(oX7 z0 y0 (nI n) (nI k2_10) fj pj z1), (aB g y0 500 tp), (aI g z1 3 nj), (oX5 t0 t1 t2 pw), (aI g t1 6 dj), (aI g t2 36 bj)]) [4, 5, 0, 3, 1, 2] (by decide) rfl
          exact he_ri hQ hx hb hr hlk hP hD hS dX7_read_80 (Nat.le_of_ble_eq_true rfl) (Nat.le_of_ble_eq_true rfl) ((k2_10, fj, pj, nj, dj, bj)) (rfl) (⟨rfl, by (try dsimp only); omega, hdj, hbj⟩)
        · have k_15 : ¬ (n ≤ k2_10) := fun h9 => c_13 ((he_cle (a := n) (b := k2_10) rfl rfl (by omega) (by omega)).mpr h9)
          refine lv_aload_n hx hb dX7_read_57 rfl (lv_at hl 0 rfl) ?_
          refine lv_aload_n hx hb dX7_read_58 rfl (lv_at hl 1 rfl) ?_
          refine lv_iload hx hb dX7_read_59 (lv_at hl 2 rfl) ?_
          refine he_ci (wc := [(oX7 z0 y0 (nI n) (nI k2_10) fj pj z1), (aB g y0 500 tp), (aI g z1 3 nj), (oX5 t0 t1 t2 pw), (aI g t1 6 dj), (aI g t2 36 bj)]) (wr := []) (va_runV (As := [.ref t0, .int (nI j)]) (rest := []) ⟨hx, hb, hml, hown, hts⟩ (g_X7_readPart5 l g z0 z1 y0 n k2_10 fj pj tp nj t0 t1 t2 pw dj bj (nI j) (by first | assumption | decide | omega) (by first | assumption | decide | omega) (by first | assumption | decide | omega) (by first | assumption | decide | omega) H.size) (cwV 2 hts gX7_read_X7_readPart rfl rfl rfl (by decide +kernel) ⟨Nat.le_of_ble_eq_true rfl, Nat.le_of_ble_eq_true rfl⟩) (he_preV (wc := [(oX7 z0 y0 (nI n) (nI k2_10) fj pj z1), (aB g y0 500 tp), (aI g z1 3 nj), (oX5 t0 t1 t2 pw), (aI g t1 6 dj), (aI g t2 36 bj)]) hK hP hD hS hA hE [4, 5, 0, 3, 1, 2] rfl rfl 4 rfl rfl) rfl rfl hl.1 rfl (lv_room (Nat.le_of_ble_eq_true rfl)) dX7_read_61 ⟨(Nat.le_of_ble_eq_true rfl), (Nat.le_of_ble_eq_true rfl)⟩) hP hD hS hA [4, 5, 0, 3, 1, 2] [] rfl rfl rfl (by decide) (fun r_16 u_17 H locs h_18 hP hD hS => ?_)
          obtain ⟨k2_19, fb_20, pb_21, nv_22, ud_23, ub_24⟩ := u_17
          try dsimp only at h_18
          obtain ⟨hf_25, hf_26, hf_27, hf_28, hf_29⟩ := h_18
          have hP : va_P g.1 vwCl [(oX7 z0 y0 (nI n) (nI k2_19) fb_20 pb_21 z1), (aB g y0 500 tp), (aI g z1 3 nv_22), (oX5 t0 t1 t2 pw), (aI g t1 6 ud_23), (aI g t2 36 ub_24)] H := hP
          have hD : va_D A [(oX7 z0 y0 (nI n) (nI k2_19) fb_20 pb_21 z1), (aB g y0 500 tp), (aI g z1 3 nv_22), (oX5 t0 t1 t2 pw), (aI g t1 6 ud_23), (aI g t2 36 ub_24)] := hD
          refine lv_if_ne (tgt := 70) hx hb dX7_read_64 (by decide) (fun c_30 => ?_) (fun c_30 => ?_)
          · refine lv_iinc (v := nI (j + 1)) (lv' := [(4, .int (nI (j + 1))), (0, .ref z0), (3, .ref t0)]) hx hb dX7_read_70 hl (k := 2) rfl (nI_1 j) (by decide) rfl (fun ls hl => ?_)
            refine lv_goto (tgt := 33) hx hb dX7_read_73 (by decide) ?_
            exact ih33 (j + 1) k2_19 fb_20 pb_21 nv_22 ud_23 ub_24 (by omega) (by omega) (by omega) hf_28 hf_29 _ _ _ hP hD hS (lv_sub hl [1, 2, 0] rfl)
          · refine lv_goto (tgt := 76) hx hb dX7_read_67 (by decide) ?_
            refine lv_aload_n hx hb dX7_read_76 rfl (lv_at hl 0 rfl) ?_
            refine va_get (v := .int fb_20) (T := TX7) (N := 6) hx hb hts inX7 hown hK hP 0 rfl rfl 3 (by decide) f35 (fun _ h9 => h9) rfl dX7_read_77 ?_
            exact he_ri hQ hx hb hr hlk hP hD hS dX7_read_80 (Nat.le_of_ble_eq_true rfl) (Nat.le_of_ble_eq_true rfl) ((k2_19, fb_20, pb_21, nv_22, ud_23, ub_24)) (rfl) (⟨rfl, by (try dsimp only); omega, hf_28, hf_29⟩)
  exact loop33 ((21 - 0) + 1) 0 0 0 (-1) nu pd wb (Nat.lt_succ_self _) (Nat.zero_le _) (Nat.zero_le _) hpd hwb _ _ _ hP hD hS (lv_sub hl [1, 4, 0] rfl)
