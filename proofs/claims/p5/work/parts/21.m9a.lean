/-- the most of f over those that may follow w, of the first v -/
def bestN (f : Nat → Nat) (w : Nat) : Nat → Nat
  | 0 => 0
  | v + 1 => if w = 0 ∨ v = 0 ∨ w = v then (if bestN f w v < f v then f v else bestN f w v) else bestN f w v
/-- the most from a month on, k months ahead of the end, w being served in it -/
def rsN (o : Nat → Nat → Nat) : Nat → Nat → Nat
  | 0, _ => 0
  | k + 1, w => bestN (rsN o k) w 3 + (if w = 0 then 0 else o (w - 1) (11 - k))
theorem bestN_le {f : Nat → Nat} {w B : Nat} (h : ∀ v, v < 3 → f v ≤ B) : ∀ v, v ≤ 3 → bestN f w v ≤ B
  | 0, _ => Nat.zero_le _
  | v + 1, hv => by
    have ih := bestN_le (w := w) h v (by omega)
    have := h v (by omega)
    rw [bestN]
    split
    · split <;> omega
    · exact ih
theorem rsN_le {o : Nat → Nat → Nat} (ho : ∀ d m, o d m ≤ 999) : ∀ k w, rsN o k w ≤ 999 * k
  | 0, _ => Nat.zero_le _
  | k + 1, w => by
    have h1 := bestN_le (w := w) (fun v _ => rsN_le ho k v) 3 (Nat.le_refl 3)
    have h2 := ho (w - 1) (11 - k)
    rw [rsN]
    split <;> omega
theorem best_t {f : Nat → Nat} {w v : Nat} (hm : ¬ mfF w v = 0) (h : bestN f w v < f v) : bestN f w (v + 1) = f v := by
  rw [bestN]
  have : w = 0 ∨ v = 0 ∨ w = v := by
    apply Decidable.byContradiction
    intro h9
    apply hm
    unfold mfF
    rw [if_neg h9]
  rw [if_pos this, if_pos h]
theorem best_f {f : Nat → Nat} {w v : Nat} (h : ¬ bestN f w v < f v) : bestN f w (v + 1) = bestN f w v := by
  rw [bestN]
  by_cases hc : w = 0 ∨ v = 0 ∨ w = v
  · rw [if_pos hc, if_neg h]
  · rw [if_neg hc]
theorem best_n {f : Nat → Nat} {w v : Nat} (hm : mfF w v = 0) : bestN f w (v + 1) = bestN f w v := by
  rw [bestN]
  have : ¬ (w = 0 ∨ v = 0 ∨ w = v) := by
    intro h9
    unfold mfF at hm
    rw [if_pos h9] at hm
    exact absurd hm (by decide)
  rw [if_neg this]
/-- what is laid: the rows from i on; of row i - 1 the first j -/
def rsOk (r11 : Nat → Nat) (o : Nat → Nat → Nat) (M : Nat → Nat → Int32) (i : Nat) : Prop := ∀ m, i ≤ m → m ≤ 12 → ∀ w, w < 3 → M (r11 m) w = nI (rsN o (12 - m) w)
def oOk (r9 : Nat → Nat) (o : Nat → Nat → Nat) (M : Nat → Nat → Int32) : Prop := ∀ d, d < 2 → ∀ m, m < 12 → M (r9 d) m = nI (o d m)
theorem dn0 {i : Nat} {x : Int32} (hm : x = nI i - 1) (h : x < 0) (hi : i < 2147483648) : i = 0 := by
  cases i with
  | zero => rfl
  | succ k => rw [hm, nI_pred] at h; exact absurd h (nI_pos (by omega))
theorem rs_keep {r11 : Nat → Nat} {o : Nat → Nat → Nat} {M : Nat → Nat → Int32} {i a : Nat} {f : Nat → Int32} (hinj : ∀ a b, a < 13 → b < 13 → r11 a = r11 b → a = b) (ha : a < i) (hi : i ≤ 13) (h : rsOk r11 o M i) : rsOk r11 o (va_up M (r11 a) f) i := by
  intro m h1 h2 w hw
  unfold va_up
  rw [if_neg (fun h9 => absurd (hinj m a (by omega) (by omega) h9) (by omega))]
  exact h m h1 h2 w hw
/-- of one row the first j -/
def rwOk (r11 : Nat → Nat) (o : Nat → Nat → Nat) (M : Nat → Nat → Int32) (k j : Nat) : Prop := ∀ w, w < j → M (r11 k) w = nI (rsN o (12 - k) w)
theorem rw_s {r11 : Nat → Nat} {o : Nat → Nat → Nat} {M : Nat → Nat → Int32} {k j : Nat} {v : Int32} (hv : v = nI (rsN o (12 - k) j)) (h : rwOk r11 o M k j) : rwOk r11 o (va_up M (r11 k) (upd (M (r11 k)) j v)) k (j + 1) := by
  intro w hw
  unfold va_up
  rw [if_pos rfl]
  unfold upd
  by_cases e : w = j
  · rw [if_pos e, e]; exact hv
  · rw [if_neg e]; exact h w (by omega)
theorem rs_row {r11 : Nat → Nat} {o : Nat → Nat → Nat} {M : Nat → Nat → Int32} {k : Nat} (h : rsOk r11 o M (k + 1)) (h2 : rwOk r11 o M k 3) : rsOk r11 o M k := by
  intro m h1 h3 w hw
  by_cases e : m = k
  · subst e; exact h2 w hw
  · exact h m (by omega) h3 w hw
theorem rs_12 {r11 : Nat → Nat} {o : Nat → Nat → Nat} {M : Nat → Nat → Int32} (h : rwOk r11 o M 12 3) : rsOk r11 o M 12 := by
  intro m h1 h3 w hw
  rw [show m = 12 by omega]
  exact h w hw
theorem rs_at {r11 : Nat → Nat} {o : Nat → Nat → Nat} {M : Nat → Nat → Int32} {k v : Nat} (h : rsOk r11 o M (k + 1)) (hk : k < 12) (hv : v < 3) : M (r11 (k + 1)) v = nI (rsN o (11 - k) v) := by
  rw [h (k + 1) (Nat.le_refl _) (by omega) v hv, show 12 - (k + 1) = 11 - k by omega]
theorem rs_val {o : Nat → Nat → Nat} {k j : Nat} (hk : k < 12) : rsN o (12 - k) j = bestN (rsN o (11 - k)) j 3 + (if j = 0 then 0 else o (j - 1) k) := by
  rw [show 12 - k = (11 - k) + 1 by omega, rsN, show 11 - (11 - k) = k by omega]
theorem mx_up {r : Nat → Nat} {M M2 : Nat → Nat → Int32} (h : mEx r 13 M M2) {i : Nat} (hi : i < 13) (f : Nat → Int32) : mEx r 13 M (va_up M2 (r i) f) := mEx_up h hi f
theorem best_0 (f : Nat → Nat) : bestN f 0 3 = (if (if f 0 < f 1 then f 1 else f 0) < f 2 then f 2 else (if f 0 < f 1 then f 1 else f 0)) := by
  have h1 : bestN f 0 1 = f 0 := by
    rw [bestN, if_pos (Or.inl rfl)]
    show (if 0 < f 0 then f 0 else 0) = f 0
    split <;> omega
  have h2 : bestN f 0 2 = if f 0 < f 1 then f 1 else f 0 := by rw [bestN, if_pos (Or.inl rfl), h1]
  rw [bestN, if_pos (Or.inl rfl), h2]
/-- one of those that may follow has the most -/
theorem best_ex (f : Nat → Nat) (w : Nat) (hw : w < 3) : ∃ v, v < 3 ∧ ¬ mfF w v = 0 ∧ f v = bestN f w 3 := by
  have key : ∀ n, n ≤ 3 → 1 ≤ n → ∃ v, v < n ∧ ¬ mfF w v = 0 ∧ f v = bestN f w n := by
    intro n
    induction n with
    | zero => intro _ h; omega
    | succ n ih =>
      intro hn _
      rcases Nat.eq_zero_or_pos n with e | e
      · subst e
        refine ⟨0, by decide, ?_, ?_⟩
        · unfold mfF; rw [if_pos (Or.inr (Or.inl rfl))]; decide
        · rw [bestN, if_pos (Or.inr (Or.inl rfl))]
          show f 0 = if 0 < f 0 then f 0 else 0
          split <;> omega
      · obtain ⟨v, h1, h2, h3⟩ := ih (by omega) e
        rw [bestN]
        split
        · rename_i h4
          split
          · refine ⟨n, by omega, ?_, rfl⟩
            unfold mfF
            rw [if_pos h4]
            decide
          · exact ⟨v, by omega, h2, h3⟩
        · exact ⟨v, by omega, h2, h3⟩
  exact key 3 (Nat.le_refl 3) (by decide)
theorem mf_of {i j : Nat} (h : ¬ mfF i j = 0) : i = 0 ∨ j = 0 ∨ i = j := by
  apply Decidable.byContradiction
  intro h9
  apply h
  unfold mfF
  rw [if_neg h9]
theorem rs_m {r11 : Nat → Nat} {o : Nat → Nat → Nat} {M : Nat → Nat → Int32} {m v : Nat} (h : rsOk r11 o M 0) (hm : m ≤ 12) (hv : v < 3) : M (r11 m) v = nI (rsN o (12 - m) v) := h m (Nat.zero_le _) hm v hv
/-- behind the one served: the most of the months behind -/
theorem sv_next {o : Nat → Nat → Nat} {m w : Nat} (hm : m < 12) : nI (rsN o (12 - m) w) - nI (if w = 0 then 0 else o (w - 1) m) = nI (bestN (rsN o (12 - (m + 1))) w 3) := by
  rw [rs_val hm, show 12 - (m + 1) = 11 - m by omega]
  rw [pk_sub (by omega)]
  congr 1
  omega
set_option maxHeartbeats 4000000 in
set_option maxRecDepth 100000 in
theorem h_X11_laysRest (l : Launch) (g : he_G) (m0 : Nat) (fd : Nat) (rfm : Nat) (rt_ : Nat) (to_ : Nat) (rw_ : Nat) (wa : Nat) (rk : Nat) (rb : Nat) (cn : Nat) (br : Nat) (sm : Nat) (as_ : Nat) (go : Nat) (sh_ : Nat) (ki : Nat) (tg : Nat) (of_ : Nat) (kp : Nat) (rs : Nat) (ta : Int32) (sz_ : Int32) (pl : Int32) (at_ : Int32) (fa : Int32) (fw : Int32) (cs : Int32) (ct : Int32) (ir : Int32) (oa : Int32) (ob : Int32) (th : Int32) (ig : Int32) (sp_ : Int32) (sf : Int32) (tw : Int32) (L : List Nat) (ln : Nat → Nat) (M : Nat → Nat → Int32) (r9 : Nat → Nat) (r11 : Nat → Nat) (o : Nat → Nat → Nat) (F_r9 : ∀ i, i < 2 → r9 i ∈ L ∧ ln (r9 i) = 12 ∧ True) (F_r11 : ∀ i, i < 13 → r11 i ∈ L ∧ ln (r11 i) = 3 ∧ True) (D_r9_r11 : ∀ i j, i < 2 → j < 13 → r9 i ≠ r11 j) (J_r11 : ∀ a b, a < 13 → b < 13 → r11 a = r11 b → a = b) (ho : oOk r9 o M) (hob : ∀ d m, o d m ≤ 999) : he_V l yX11_laysRest wsX11_laysRest 1 21 0 0 g [.ref m0] ([(oX11 m0 tw ta sz_ pl at_ fa fw cs fd rfm rt_ to_ rw_ wa ct rk rb cn br sm as_ go sh_ ir oa ob th ig sp_ ki tg of_ kp sf rs), (aM g of_ 2 (he_ro 2 r9)), (aM g rs 13 (he_ro 13 r11))] ++ he_pl g L ln M) (fun (u : Nat → Nat → Int32) => rsOk r11 o u 0 ∧ mEx r11 13 M u) (fun (u : Nat → Nat → Int32) => [(oX11 m0 tw ta sz_ pl at_ fa fw cs fd rfm rt_ to_ rw_ wa ct rk rb cn br sm as_ go sh_ ir oa ob th ig sp_ ki tg of_ kp sf rs), (aM g of_ 2 (he_ro 2 r9)), (aM g rs 13 (he_ro 13 r11))] ++ he_pl g L ln u) := by
  refine he_begin (l := l) (g := g) (y := yX11_laysRest) (wl := wsX11_laysRest) (fr := 1) (lo := 21) (mc := 0) (ms := 0) (av := [.ref m0]) (ws := ([(oX11 m0 tw ta sz_ pl at_ fa fw cs fd rfm rt_ to_ rw_ wa ct rk rb cn br sm as_ go sh_ ir oa ob th ig sp_ ki tg of_ kp sf rs), (aM g of_ 2 (he_ro 2 r9)), (aM g rs 13 (he_ro 13 r11))] ++ he_pl g L ln M)) (cc := cX11_laysRest) (maxL := 5) (ret := none) (fun A => va_Qv (fun (u : Nat → Nat → Int32) => rsOk r11 o u 0 ∧ mEx r11 13 M u) (fun u t => he_post g A ((fun (u : Nat → Nat → Int32) => [(oX11 m0 tw ta sz_ pl at_ fa fw cs fd rfm rt_ to_ rw_ wa ct rk rb cn br sm as_ go sh_ ir oa ob th ig sp_ ki tg of_ kp sf rs), (aM g of_ 2 (he_ro 2 r9)), (aM g rs 13 (he_ro 13 r11))] ++ he_pl g L ln u) u) t) A) (by decide) rfl (Nat.le_of_ble_eq_true rfl) ?_
  intro p e s m args below meth c A ls H locs Q hQ hB
  obtain ⟨hx, hb, hr, hml, hown, hts, hlk, hin, hP, hK, hD, hS, hA, hE, hl⟩ := hB
  have hl : lv_has ls 5 [(0, .ref m0)] := hl
  have f76 := hts (.fieldLink RX11 76 "HiredEnemyModel" "rest" "[[I") (iwoX11_laysRest (k := 0) rfl)
  have inX11 : ∀ w ∈ wsX110, w ∈ wsX11_laysRest := innX11_laysRest_X11
  have f70 := hts (.fieldLink RX11 70 "HiredEnemyModel" "offered" "[[I") (iwoX11_laysRest (k := 1) rfl)
  refine lv_iconst (v := 0) hx hb dX11_laysRest_0 (by decide) ?_
  refine lv_istore_n (lv' := [(1, .int 0), (0, .ref m0)]) hx hb dX11_laysRest_1 rfl hl (by decide) rfl (fun ls hl => ?_)
  have loop2 : ∀ (n9 : Nat) (q : Nat) (Mj : Nat → Nat → Int32), 3 - q < n9 → (q ≤ 3) → (rwOk r11 o Mj 12 q) → (mEx r11 13 M Mj) → ∀ (H : Heap) (locs : List Loc) (ls : Array Slot), va_P g.1 vwCl ([(oX11 m0 tw ta sz_ pl at_ fa fw cs fd rfm rt_ to_ rw_ wa ct rk rb cn br sm as_ go sh_ ir oa ob th ig sp_ ki tg of_ kp sf rs), (aM g of_ 2 (he_ro 2 r9)), (aM g rs 13 (he_ro 13 r11))] ++ he_pl g L ln Mj) H → va_D A ([(oX11 m0 tw ta sz_ pl at_ fa fw cs fd rfm rt_ to_ rw_ wa ct rk rb cn br sm as_ go sh_ ir oa ob th ig sp_ ki tg of_ kp sf rs), (aM g of_ 2 (he_ro 2 r9)), (aM g rs 13 (he_ro 13 r11))] ++ he_pl g L ln Mj) → va_S A s.heap H locs → lv_has ls 5 [(0, .ref m0), (1, .int (nI q))] → W p l e (he_room 1 21 0 0) s m args below meth c H locs 0 0 Q (F0 m 2 ls []) := by
    intro n9
    induction n9 with
    | zero => intro q Mj hm9; exact absurd hm9 (Nat.not_lt_zero _)
    | succ n9 ih2 =>
      intro q Mj hm9 hq hrw hmx H locs ls hP hD hS hl
      refine lv_iload_n hx hb dX11_laysRest_2 rfl (lv_at hl 1 rfl) ?_
      refine lv_iconst (v := 3) hx hb dX11_laysRest_3 (by decide) ?_
      refine lv_icmp_ge (tgt := 23) hx hb dX11_laysRest_4 (by decide) (fun c_1 => ?_) (fun c_1 => ?_)
      · have k_2 : 3 ≤ q := (he_cle (a := 3) (b := q) (by decide) rfl (by omega) (by omega)).mp c_1
        obtain rfl : q = 3 := by omega
        refine lv_bipush (v := 11) hx hb dX11_laysRest_23 (by decide) ?_
        refine lv_istore_n (lv' := [(1, .int 11), (0, .ref m0)]) hx hb dX11_laysRest_25 rfl hl (by decide) rfl (fun ls hl => ?_)
        have loop26 : ∀ (n9 : Nat) (i : Nat) (mo : Int32) (Mj : Nat → Nat → Int32), i < n9 → (i ≤ 12) → (mo = nI i - 1) → (rsOk r11 o Mj i) → (mEx r11 13 M Mj) → ∀ (H : Heap) (locs : List Loc) (ls : Array Slot), va_P g.1 vwCl ([(oX11 m0 tw ta sz_ pl at_ fa fw cs fd rfm rt_ to_ rw_ wa ct rk rb cn br sm as_ go sh_ ir oa ob th ig sp_ ki tg of_ kp sf rs), (aM g of_ 2 (he_ro 2 r9)), (aM g rs 13 (he_ro 13 r11))] ++ he_pl g L ln Mj) H → va_D A ([(oX11 m0 tw ta sz_ pl at_ fa fw cs fd rfm rt_ to_ rw_ wa ct rk rb cn br sm as_ go sh_ ir oa ob th ig sp_ ki tg of_ kp sf rs), (aM g of_ 2 (he_ro 2 r9)), (aM g rs 13 (he_ro 13 r11))] ++ he_pl g L ln Mj) → va_S A s.heap H locs → lv_has ls 5 [(0, .ref m0), (1, .int mo)] → W p l e (he_room 1 21 0 0) s m args below meth c H locs 0 0 Q (F0 m 26 ls []) := by
          intro n9
          induction n9 with
          | zero => intro i mo Mj hm9; exact absurd hm9 (Nat.not_lt_zero _)
          | succ n9 ih26 =>
            intro i mo Mj hm9 hi hmo hrs hmx H locs ls hP hD hS hl
            refine lv_iload_n hx hb dX11_laysRest_26 rfl (lv_at hl 1 rfl) ?_
            refine lv_if_lt (tgt := 134) hx hb dX11_laysRest_27 (by decide) (fun c_3 => ?_) (fun c_3 => ?_)
            · exact he_rv hQ hx hb hr hlk hP hD hS dX11_laysRest_134 (Nat.le_of_ble_eq_true rfl) (Nat.le_of_ble_eq_true rfl) (Mj) (rfl) (⟨by have e9 := dn0 hmo c_3 (by omega); subst e9; exact hrs, hmx⟩)
            · obtain ⟨k, rfl, rfl⟩ := he_down hmo c_3
              refine lv_iconst (v := 0) hx hb dX11_laysRest_30 (by decide) ?_
              refine lv_istore_n (lv' := [(2, .int 0), (0, .ref m0), (1, .int (nI k))]) hx hb dX11_laysRest_31 rfl hl (by decide) rfl (fun ls hl => ?_)
              have loop32 : ∀ (n9 : Nat) (j : Nat) (Mj : Nat → Nat → Int32), 3 - j < n9 → (j ≤ 3) → (rsOk r11 o Mj (k + 1)) → (rwOk r11 o Mj k j) → (mEx r11 13 M Mj) → ∀ (H : Heap) (locs : List Loc) (ls : Array Slot), va_P g.1 vwCl ([(oX11 m0 tw ta sz_ pl at_ fa fw cs fd rfm rt_ to_ rw_ wa ct rk rb cn br sm as_ go sh_ ir oa ob th ig sp_ ki tg of_ kp sf rs), (aM g of_ 2 (he_ro 2 r9)), (aM g rs 13 (he_ro 13 r11))] ++ he_pl g L ln Mj) H → va_D A ([(oX11 m0 tw ta sz_ pl at_ fa fw cs fd rfm rt_ to_ rw_ wa ct rk rb cn br sm as_ go sh_ ir oa ob th ig sp_ ki tg of_ kp sf rs), (aM g of_ 2 (he_ro 2 r9)), (aM g rs 13 (he_ro 13 r11))] ++ he_pl g L ln Mj) → va_S A s.heap H locs → lv_has ls 5 [(0, .ref m0), (1, .int (nI k)), (2, .int (nI j))] → W p l e (he_room 1 21 0 0) s m args below meth c H locs 0 0 Q (F0 m 32 ls []) := by
                intro n9
                induction n9 with
                | zero => intro j Mj hm9; exact absurd hm9 (Nat.not_lt_zero _)
                | succ n9 ih32 =>
                  intro j Mj hm9 hj hrs hrw2 hmx H locs ls hP hD hS hl
                  refine lv_iload_n hx hb dX11_laysRest_32 rfl (lv_at hl 2 rfl) ?_
                  refine lv_iconst (v := 3) hx hb dX11_laysRest_33 (by decide) ?_
                  refine lv_icmp_ge (tgt := 128) hx hb dX11_laysRest_34 (by decide) (fun c_4 => ?_) (fun c_4 => ?_)
                  · have k_5 : 3 ≤ j := (he_cle (a := 3) (b := j) (by decide) rfl (by omega) (by omega)).mp c_4
                    obtain rfl : j = 3 := by omega
                    refine lv_iinc (v := nI k + (-1)) (lv' := [(1, .int (nI k + (-1))), (0, .ref m0), (2, .int 3)]) hx hb dX11_laysRest_128 hl (k := 1) rfl rfl (by decide) rfl (fun ls hl => ?_)
                    refine lv_goto (tgt := 26) hx hb dX11_laysRest_131 (by decide) ?_
                    exact ih26 k (nI k + (-1)) Mj (by omega) (by omega) (he_dec k) (rs_row hrs hrw2) hmx _ _ _ hP hD hS (lv_sub hl [1, 0] rfl)
                  · have k_6 : ¬ (3 ≤ j) := fun h9 => c_4 ((he_cle (a := 3) (b := j) (by decide) rfl (by omega) (by omega)).mpr h9)
                    refine lv_iconst (v := 0) hx hb dX11_laysRest_37 (by decide) ?_
                    refine lv_istore_n (lv' := [(3, .int 0), (0, .ref m0), (1, .int (nI k)), (2, .int (nI j))]) hx hb dX11_laysRest_38 rfl hl (by decide) rfl (fun ls hl => ?_)
                    refine lv_iconst (v := 0) hx hb dX11_laysRest_39 (by decide) ?_
                    refine lv_istore (lv' := [(4, .int 0), (3, .int 0), (0, .ref m0), (1, .int (nI k)), (2, .int (nI j))]) hx hb dX11_laysRest_40 hl (by decide) rfl (fun ls hl => ?_)
                    have loop42 : ∀ (n9 : Nat) (v : Nat) (bs : Int32), 3 - v < n9 → (v ≤ 3) → (bs = nI (bestN (rsN o (11 - k)) j v)) → ∀ (H : Heap) (locs : List Loc) (ls : Array Slot), va_P g.1 vwCl ([(oX11 m0 tw ta sz_ pl at_ fa fw cs fd rfm rt_ to_ rw_ wa ct rk rb cn br sm as_ go sh_ ir oa ob th ig sp_ ki tg of_ kp sf rs), (aM g of_ 2 (he_ro 2 r9)), (aM g rs 13 (he_ro 13 r11))] ++ he_pl g L ln Mj) H → va_D A ([(oX11 m0 tw ta sz_ pl at_ fa fw cs fd rfm rt_ to_ rw_ wa ct rk rb cn br sm as_ go sh_ ir oa ob th ig sp_ ki tg of_ kp sf rs), (aM g of_ 2 (he_ro 2 r9)), (aM g rs 13 (he_ro 13 r11))] ++ he_pl g L ln Mj) → va_S A s.heap H locs → lv_has ls 5 [(0, .ref m0), (1, .int (nI k)), (2, .int (nI j)), (3, .int bs), (4, .int (nI v))] → W p l e (he_room 1 21 0 0) s m args below meth c H locs 0 0 Q (F0 m 42 ls []) := by
                      intro n9
                      induction n9 with
                      | zero => intro v bs hm9; exact absurd hm9 (Nat.not_lt_zero _)
                      | succ n9 ih42 =>
                        intro v bs hm9 hv hbs H locs ls hP hD hS hl
                        refine lv_iload hx hb dX11_laysRest_42 (lv_at hl 4 rfl) ?_
                        refine lv_iconst (v := 3) hx hb dX11_laysRest_44 (by decide) ?_
                        refine lv_icmp_ge (tgt := 94) hx hb dX11_laysRest_45 (by decide) (fun c_7 => ?_) (fun c_7 => ?_)
                        · have k_8 : 3 ≤ v := (he_cle (a := 3) (b := v) (by decide) rfl (by omega) (by omega)).mp c_7
                          obtain rfl : v = 3 := by omega
                          refine lv_aload_n hx hb dX11_laysRest_94 rfl (lv_at hl 0 rfl) ?_
                          refine va_get (v := .ref rs) (T := TX11) (N := 35) hx hb hts inX11 hown hK hP 0 rfl rfl 34 (by decide) f76 (fun _ h9 => h9) rfl dX11_laysRest_95 ?_
                          refine lv_iload_n hx hb dX11_laysRest_98 rfl (lv_at hl 1 rfl) ?_
                          refine he_aldm hx hb hK hP 2 rfl (k) rfl (by first | assumption | decide | omega) (by decide) dX11_laysRest_99 ?_
                          refine lv_iload_n hx hb dX11_laysRest_100 rfl (lv_at hl 2 rfl) ?_
                          refine lv_iload_n hx hb dX11_laysRest_101 rfl (lv_at hl 3 rfl) ?_
                          refine lv_iload_n hx hb dX11_laysRest_102 rfl (lv_at hl 2 rfl) ?_
                          refine lv_if_ne (tgt := 110) hx hb dX11_laysRest_103 (by decide) (fun c_9 => ?_) (fun c_9 => ?_)
                          · have k_10 : ¬ (j = 0) := fun h9 => c_9 ((he_ceq (a := j) (b := 0) rfl (by decide) (by omega) (by omega)).mpr h9)
                            refine lv_aload_n hx hb dX11_laysRest_110 rfl (lv_at hl 0 rfl) ?_
                            refine va_get (v := .ref of_) (T := TX11) (N := 35) hx hb hts inX11 hown hK hP 0 rfl rfl 31 (by decide) f70 (fun _ h9 => h9) rfl dX11_laysRest_111 ?_
                            refine lv_iload_n hx hb dX11_laysRest_114 rfl (lv_at hl 2 rfl) ?_
                            refine lv_iconst (v := 1) hx hb dX11_laysRest_115 (by decide) ?_
                            refine lv_isub hx hb dX11_laysRest_116 ?_
                            refine he_top (nI (j - 1)) (pk_sub (b := 1) (by omega)) ?_
                            refine he_aldm hx hb hK hP 1 rfl (j - 1) rfl (by first | assumption | decide | omega) (by decide) dX11_laysRest_117 ?_
                            refine lv_iload_n hx hb dX11_laysRest_118 rfl (lv_at hl 1 rfl) ?_
                            refine he_pald hx hb hK hP (F_r9 (j - 1) (by first | assumption | decide | omega)).1 (k) rfl (by rw [(F_r9 (j - 1) (by first | assumption | decide | omega)).2.1]; exact (by first | assumption | decide | omega)) (by rw [(F_r9 (j - 1) (by first | assumption | decide | omega)).2.1]; decide) (nI (o (j - 1) k)) (by rw [hmx _ (fun i hi => D_r9_r11 (j - 1) i (by omega) hi)]; exact ho (j - 1) (by omega) k (by omega)) dX11_laysRest_119 ?_
                            refine lv_iadd hx hb dX11_laysRest_120 ?_
                            refine he_past hx hb hK hP hD hS (F_r11 k (by first | assumption | decide | omega)).1 (j) rfl (by rw [(F_r11 k (by first | assumption | decide | omega)).2.1]; exact (by first | assumption | decide | omega)) (by rw [(F_r11 k (by first | assumption | decide | omega)).2.1]; decide) dX11_laysRest_121 (fun H locs hP hD hS => ?_)
                            have hP : va_P g.1 vwCl ([(oX11 m0 tw ta sz_ pl at_ fa fw cs fd rfm rt_ to_ rw_ wa ct rk rb cn br sm as_ go sh_ ir oa ob th ig sp_ ki tg of_ kp sf rs), (aM g of_ 2 (he_ro 2 r9)), (aM g rs 13 (he_ro 13 r11))] ++ he_pl g L ln (va_up Mj (r11 k) (upd (Mj (r11 k)) j (bs + (nI (o (j - 1) k)))))) H := hP
                            have hD : va_D A ([(oX11 m0 tw ta sz_ pl at_ fa fw cs fd rfm rt_ to_ rw_ wa ct rk rb cn br sm as_ go sh_ ir oa ob th ig sp_ ki tg of_ kp sf rs), (aM g of_ 2 (he_ro 2 r9)), (aM g rs 13 (he_ro 13 r11))] ++ he_pl g L ln (va_up Mj (r11 k) (upd (Mj (r11 k)) j (bs + (nI (o (j - 1) k)))))) := hD
                            refine lv_iinc (v := nI (j + 1)) (lv' := [(2, .int (nI (j + 1))), (0, .ref m0), (1, .int (nI k)), (3, .int bs), (4, .int 3)]) hx hb dX11_laysRest_122 hl (k := 2) rfl (nI_1 j) (by decide) rfl (fun ls hl => ?_)
                            refine lv_goto (tgt := 32) hx hb dX11_laysRest_125 (by decide) ?_
                            exact ih32 (j + 1) (va_up Mj (r11 k) (upd (Mj (r11 k)) j (bs + (nI (o (j - 1) k))))) (by omega) (by omega) (rs_keep J_r11 (by omega) (by omega) hrs) (rw_s (by rw [rs_val (by omega)]; first | (rw [if_pos (show j = 0 by omega), hbs]; exact nI_add _ 0) | (rw [if_neg (show ¬ j = 0 by omega), hbs]; exact nI_add _ _)) hrw2) (mEx_up hmx (by omega) _) _ _ _ hP hD hS (lv_sub hl [1, 2, 0] rfl)
                          · have k_11 : j = 0 := (he_ceq (a := j) (b := 0) rfl (by decide) (by omega) (by omega)).mp c_9
                            refine lv_iconst (v := 0) hx hb dX11_laysRest_106 (by decide) ?_
                            refine lv_goto (tgt := 120) hx hb dX11_laysRest_107 (by decide) ?_
                            refine lv_iadd hx hb dX11_laysRest_120 ?_
                            refine he_past hx hb hK hP hD hS (F_r11 k (by first | assumption | decide | omega)).1 (j) rfl (by rw [(F_r11 k (by first | assumption | decide | omega)).2.1]; exact (by first | assumption | decide | omega)) (by rw [(F_r11 k (by first | assumption | decide | omega)).2.1]; decide) dX11_laysRest_121 (fun H locs hP hD hS => ?_)
                            have hP : va_P g.1 vwCl ([(oX11 m0 tw ta sz_ pl at_ fa fw cs fd rfm rt_ to_ rw_ wa ct rk rb cn br sm as_ go sh_ ir oa ob th ig sp_ ki tg of_ kp sf rs), (aM g of_ 2 (he_ro 2 r9)), (aM g rs 13 (he_ro 13 r11))] ++ he_pl g L ln (va_up Mj (r11 k) (upd (Mj (r11 k)) j (bs + 0)))) H := hP
                            have hD : va_D A ([(oX11 m0 tw ta sz_ pl at_ fa fw cs fd rfm rt_ to_ rw_ wa ct rk rb cn br sm as_ go sh_ ir oa ob th ig sp_ ki tg of_ kp sf rs), (aM g of_ 2 (he_ro 2 r9)), (aM g rs 13 (he_ro 13 r11))] ++ he_pl g L ln (va_up Mj (r11 k) (upd (Mj (r11 k)) j (bs + 0)))) := hD
                            refine lv_iinc (v := nI (j + 1)) (lv' := [(2, .int (nI (j + 1))), (0, .ref m0), (1, .int (nI k)), (3, .int bs), (4, .int 3)]) hx hb dX11_laysRest_122 hl (k := 2) rfl (nI_1 j) (by decide) rfl (fun ls hl => ?_)
                            refine lv_goto (tgt := 32) hx hb dX11_laysRest_125 (by decide) ?_
                            exact ih32 (j + 1) (va_up Mj (r11 k) (upd (Mj (r11 k)) j (bs + 0))) (by omega) (by omega) (rs_keep J_r11 (by omega) (by omega) hrs) (rw_s (by rw [rs_val (by omega)]; first | (rw [if_pos (show j = 0 by omega), hbs]; exact nI_add _ 0) | (rw [if_neg (show ¬ j = 0 by omega), hbs]; exact nI_add _ _)) hrw2) (mEx_up hmx (by omega) _) _ _ _ hP hD hS (lv_sub hl [1, 2, 0] rfl)
                        · have k_12 : ¬ (3 ≤ v) := fun h9 => c_7 ((he_cle (a := 3) (b := v) (by decide) rfl (by omega) (by omega)).mpr h9)
                          refine lv_iload_n hx hb dX11_laysRest_48 rfl (lv_at hl 2 rfl) ?_
                          refine lv_iload hx hb dX11_laysRest_49 (lv_at hl 4 rfl) ?_
                          refine he_ci (wc := []) (wr := ([(oX11 m0 tw ta sz_ pl at_ fa fw cs fd rfm rt_ to_ rw_ wa ct rk rb cn br sm as_ go sh_ ir oa ob th ig sp_ ki tg of_ kp sf rs), (aM g of_ 2 (he_ro 2 r9)), (aM g rs 13 (he_ro 13 r11))] ++ (he_pl g L ln Mj))) (va_runS (As := [.int (nI j), .int (nI v)]) (rest := []) ⟨hx, hb, hml, hown, hts⟩ (c_X11_mayServe l g j v (by first | assumption | decide | omega) (by first | assumption | decide | omega) H.size) (va_cwS 2 hts gX11_laysRest_X11_mayServe rfl rfl rfl (by decide +kernel) ⟨Nat.le_of_ble_eq_true rfl, Nat.le_of_ble_eq_true rfl⟩) (he_preS (wc := []) hK hP hD hS hA hE [] rfl rfl) rfl rfl hl.1 rfl (lv_room (Nat.le_of_ble_eq_true rfl)) dX11_laysRest_51 ⟨(Nat.le_of_ble_eq_true rfl), (Nat.le_of_ble_eq_true rfl)⟩) hP hD hS hA [] (he_is [0, 1, 2] [(oX11 m0 tw ta sz_ pl at_ fa fw cs fd rfm rt_ to_ rw_ wa ct rk rb cn br sm as_ go sh_ ir oa ob th ig sp_ ki tg of_ kp sf rs), (aM g of_ 2 (he_ro 2 r9)), (aM g rs 13 (he_ro 13 r11))] (he_pl g L ln Mj)) rfl (he_ixP rfl) (he_ndP rfl rfl) (he_disN (by decide) rfl) (fun r_13 u_14 H locs h_15 hP hD hS => ?_)
                          have hP := va_P.swap hP
                          have hD := va_D.swap hD
                          subst h_15
                          have hP : va_P g.1 vwCl ([(oX11 m0 tw ta sz_ pl at_ fa fw cs fd rfm rt_ to_ rw_ wa ct rk rb cn br sm as_ go sh_ ir oa ob th ig sp_ ki tg of_ kp sf rs), (aM g of_ 2 (he_ro 2 r9)), (aM g rs 13 (he_ro 13 r11))] ++ he_pl g L ln Mj) H := hP
                          have hD : va_D A ([(oX11 m0 tw ta sz_ pl at_ fa fw cs fd rfm rt_ to_ rw_ wa ct rk rb cn br sm as_ go sh_ ir oa ob th ig sp_ ki tg of_ kp sf rs), (aM g of_ 2 (he_ro 2 r9)), (aM g rs 13 (he_ro 13 r11))] ++ he_pl g L ln Mj) := hD
                          refine lv_if_eq (tgt := 88) hx hb dX11_laysRest_54 (by decide) (fun c_16 => ?_) (fun c_16 => ?_)
                          · refine lv_iinc (v := nI (v + 1)) (lv' := [(4, .int (nI (v + 1))), (0, .ref m0), (1, .int (nI k)), (2, .int (nI j)), (3, .int bs)]) hx hb dX11_laysRest_88 hl (k := 4) rfl (nI_1 v) (by decide) rfl (fun ls hl => ?_)
                            refine lv_goto (tgt := 42) hx hb dX11_laysRest_91 (by decide) ?_
                            exact ih42 (v + 1) bs (by omega) (by omega) (by rw [best_n c_16]; exact hbs) _ _ _ hP hD hS (lv_sub hl [1, 2, 3, 4, 0] rfl)
                          · refine lv_aload_n hx hb dX11_laysRest_57 rfl (lv_at hl 0 rfl) ?_
                            refine va_get (v := .ref rs) (T := TX11) (N := 35) hx hb hts inX11 hown hK hP 0 rfl rfl 34 (by decide) f76 (fun _ h9 => h9) rfl dX11_laysRest_58 ?_
                            refine lv_iload_n hx hb dX11_laysRest_61 rfl (lv_at hl 1 rfl) ?_
                            refine lv_iconst (v := 1) hx hb dX11_laysRest_62 (by decide) ?_
                            refine lv_iadd hx hb dX11_laysRest_63 ?_
                            refine he_top (nI (k + 1)) (nI_add k 1) ?_
                            refine he_aldm hx hb hK hP 2 rfl (k + 1) rfl (by first | assumption | decide | omega) (by decide) dX11_laysRest_64 ?_
                            refine lv_iload hx hb dX11_laysRest_65 (lv_at hl 4 rfl) ?_
                            refine he_pald hx hb hK hP (F_r11 (k + 1) (by first | assumption | decide | omega)).1 (v) rfl (by rw [(F_r11 (k + 1) (by first | assumption | decide | omega)).2.1]; exact (by first | assumption | decide | omega)) (by rw [(F_r11 (k + 1) (by first | assumption | decide | omega)).2.1]; decide) (nI (rsN o (11 - k) v)) (rs_at hrs (by omega) (by omega)) dX11_laysRest_67 ?_
                            refine lv_iload_n hx hb dX11_laysRest_68 rfl (lv_at hl 3 rfl) ?_
                            refine lv_icmp_le (tgt := 86) hx hb dX11_laysRest_69 (by decide) (fun c_17 => ?_) (fun c_17 => ?_)
                            · refine lv_iload_n hx hb dX11_laysRest_86 rfl (lv_at hl 3 rfl) ?_
                              have hb8 := bestN_le (f := rsN o (11 - k)) (w := j) (B := 999 * (11 - k)) (fun v _ => rsN_le hob (11 - k) v)
                              refine he_top (nI (bestN (rsN o (11 - k)) j (v + 1))) (by rw [hbs, best_f (f := rsN o (11 - k)) (w := j) (v := v) (fun h9 => absurd ((nI_ltI (by have := hb8 v (by omega); omega) (by have := rsN_le hob (11 - k) v; omega)).mpr h9) (Int32.not_lt.mpr (by rw [← hbs]; exact c_17)))]) ?_
                              refine lv_istore_n (lv' := [(3, .int (nI (bestN (rsN o (11 - k)) j (v + 1)))), (0, .ref m0), (1, .int (nI k)), (2, .int (nI j)), (4, .int (nI v))]) hx hb dX11_laysRest_87 rfl hl (by decide) rfl (fun ls hl => ?_)
                              refine lv_iinc (v := nI (v + 1)) (lv' := [(4, .int (nI (v + 1))), (3, .int (nI (bestN (rsN o (11 - k)) j (v + 1)))), (0, .ref m0), (1, .int (nI k)), (2, .int (nI j))]) hx hb dX11_laysRest_88 hl (k := 4) rfl (nI_1 v) (by decide) rfl (fun ls hl => ?_)
                              refine lv_goto (tgt := 42) hx hb dX11_laysRest_91 (by decide) ?_
                              exact ih42 (v + 1) (nI (bestN (rsN o (11 - k)) j (v + 1))) (by omega) (by omega) rfl _ _ _ hP hD hS (lv_sub hl [2, 3, 4, 1, 0] rfl)
                            · refine lv_aload_n hx hb dX11_laysRest_72 rfl (lv_at hl 0 rfl) ?_
                              refine va_get (v := .ref rs) (T := TX11) (N := 35) hx hb hts inX11 hown hK hP 0 rfl rfl 34 (by decide) f76 (fun _ h9 => h9) rfl dX11_laysRest_73 ?_
                              refine lv_iload_n hx hb dX11_laysRest_76 rfl (lv_at hl 1 rfl) ?_
                              refine lv_iconst (v := 1) hx hb dX11_laysRest_77 (by decide) ?_
                              refine lv_iadd hx hb dX11_laysRest_78 ?_
                              refine he_top (nI (k + 1)) (nI_add k 1) ?_
                              refine he_aldm hx hb hK hP 2 rfl (k + 1) rfl (by first | assumption | decide | omega) (by decide) dX11_laysRest_79 ?_
                              refine lv_iload hx hb dX11_laysRest_80 (lv_at hl 4 rfl) ?_
                              refine he_pald hx hb hK hP (F_r11 (k + 1) (by first | assumption | decide | omega)).1 (v) rfl (by rw [(F_r11 (k + 1) (by first | assumption | decide | omega)).2.1]; exact (by first | assumption | decide | omega)) (by rw [(F_r11 (k + 1) (by first | assumption | decide | omega)).2.1]; decide) (nI (rsN o (11 - k) v)) (rs_at hrs (by omega) (by omega)) dX11_laysRest_82 ?_
                              refine lv_goto (tgt := 87) hx hb dX11_laysRest_83 (by decide) ?_
                              have hb8 := bestN_le (f := rsN o (11 - k)) (w := j) (B := 999 * (11 - k)) (fun v _ => rsN_le hob (11 - k) v)
                              refine he_top (nI (bestN (rsN o (11 - k)) j (v + 1))) (by rw [best_t (f := rsN o (11 - k)) (w := j) (v := v) c_16 ((nI_ltI (by have := hb8 v (by omega); omega) (by have := rsN_le hob (11 - k) v; omega)).mp (by rw [← hbs]; exact Int32.not_le.mp c_17))]) ?_
                              refine lv_istore_n (lv' := [(3, .int (nI (bestN (rsN o (11 - k)) j (v + 1)))), (0, .ref m0), (1, .int (nI k)), (2, .int (nI j)), (4, .int (nI v))]) hx hb dX11_laysRest_87 rfl hl (by decide) rfl (fun ls hl => ?_)
                              refine lv_iinc (v := nI (v + 1)) (lv' := [(4, .int (nI (v + 1))), (3, .int (nI (bestN (rsN o (11 - k)) j (v + 1)))), (0, .ref m0), (1, .int (nI k)), (2, .int (nI j))]) hx hb dX11_laysRest_88 hl (k := 4) rfl (nI_1 v) (by decide) rfl (fun ls hl => ?_)
                              refine lv_goto (tgt := 42) hx hb dX11_laysRest_91 (by decide) ?_
                              exact ih42 (v + 1) (nI (bestN (rsN o (11 - k)) j (v + 1))) (by omega) (by omega) rfl _ _ _ hP hD hS (lv_sub hl [2, 3, 4, 1, 0] rfl)
                    exact loop42 ((3 - 0) + 1) 0 0 (Nat.lt_succ_self _) (Nat.zero_le _) rfl _ _ _ hP hD hS (lv_sub hl [2, 3, 4, 1, 0] rfl)
              exact loop32 ((3 - 0) + 1) 0 Mj (Nat.lt_succ_self _) (Nat.zero_le _) hrs (fun w hw => absurd hw (Nat.not_lt_zero w)) hmx _ _ _ hP hD hS (lv_sub hl [1, 2, 0] rfl)
        exact loop26 ((12) + 1) 12 11 Mj (Nat.lt_succ_self _) (by decide) (by decide) (rs_12 hrw) hmx _ _ _ hP hD hS (lv_sub hl [1, 0] rfl)
      · have k_18 : ¬ (3 ≤ q) := fun h9 => c_1 ((he_cle (a := 3) (b := q) (by decide) rfl (by omega) (by omega)).mpr h9)
        refine lv_aload_n hx hb dX11_laysRest_7 rfl (lv_at hl 0 rfl) ?_
        refine va_get (v := .ref rs) (T := TX11) (N := 35) hx hb hts inX11 hown hK hP 0 rfl rfl 34 (by decide) f76 (fun _ h9 => h9) rfl dX11_laysRest_8 ?_
        refine lv_bipush (v := 12) hx hb dX11_laysRest_11 (by decide) ?_
        refine he_aldm hx hb hK hP 2 rfl (12) (by decide) (by decide) (by decide) dX11_laysRest_13 ?_
        refine lv_iload_n hx hb dX11_laysRest_14 rfl (lv_at hl 1 rfl) ?_
        refine lv_iconst (v := 0) hx hb dX11_laysRest_15 (by decide) ?_
        refine he_past hx hb hK hP hD hS (F_r11 12 (by decide)).1 (q) rfl (by rw [(F_r11 12 (by decide)).2.1]; exact (by first | assumption | decide | omega)) (by rw [(F_r11 12 (by decide)).2.1]; decide) dX11_laysRest_16 (fun H locs hP hD hS => ?_)
        have hP : va_P g.1 vwCl ([(oX11 m0 tw ta sz_ pl at_ fa fw cs fd rfm rt_ to_ rw_ wa ct rk rb cn br sm as_ go sh_ ir oa ob th ig sp_ ki tg of_ kp sf rs), (aM g of_ 2 (he_ro 2 r9)), (aM g rs 13 (he_ro 13 r11))] ++ he_pl g L ln (va_up Mj (r11 12) (upd (Mj (r11 12)) q 0))) H := hP
        have hD : va_D A ([(oX11 m0 tw ta sz_ pl at_ fa fw cs fd rfm rt_ to_ rw_ wa ct rk rb cn br sm as_ go sh_ ir oa ob th ig sp_ ki tg of_ kp sf rs), (aM g of_ 2 (he_ro 2 r9)), (aM g rs 13 (he_ro 13 r11))] ++ he_pl g L ln (va_up Mj (r11 12) (upd (Mj (r11 12)) q 0))) := hD
        refine lv_iinc (v := nI (q + 1)) (lv' := [(1, .int (nI (q + 1))), (0, .ref m0)]) hx hb dX11_laysRest_17 hl (k := 1) rfl (nI_1 q) (by decide) rfl (fun ls hl => ?_)
        refine lv_goto (tgt := 2) hx hb dX11_laysRest_20 (by decide) ?_
        exact ih2 (q + 1) (va_up Mj (r11 12) (upd (Mj (r11 12)) q 0)) (by omega) (by omega) (rw_s (by rfl) hrw) (mEx_up hmx (by omega) _) _ _ _ hP hD hS (lv_sub hl [1, 0] rfl)
  exact loop2 ((3 - 0) + 1) 0 M (Nat.lt_succ_self _) (Nat.zero_le _) (fun w hw => absurd hw (Nat.not_lt_zero w)) (mEx_refl _ _ _) _ _ _ hP hD hS (lv_sub hl [1, 0] rfl)
set_option maxHeartbeats 4000000 in
set_option maxRecDepth 100000 in
theorem h_X11_mostNow (l : Launch) (g : he_G) (m0 : Nat) (fd : Nat) (rfm : Nat) (rt_ : Nat) (to_ : Nat) (rw_ : Nat) (wa : Nat) (rk : Nat) (rb : Nat) (cn : Nat) (br : Nat) (sm : Nat) (as_ : Nat) (go : Nat) (sh_ : Nat) (ki : Nat) (tg : Nat) (of_ : Nat) (kp : Nat) (rs : Nat) (ta : Int32) (sz_ : Int32) (pl : Int32) (at_ : Int32) (fa : Int32) (fw : Int32) (cs : Int32) (ct : Int32) (ir : Int32) (oa : Int32) (ob : Int32) (th : Int32) (ig : Int32) (sp_ : Int32) (sf : Int32) (tw : Int32) (L : List Nat) (ln : Nat → Nat) (M : Nat → Nat → Int32) (r9 : Nat → Nat) (r11 : Nat → Nat) (o : Nat → Nat → Nat) (F_r9 : ∀ i, i < 2 → r9 i ∈ L ∧ ln (r9 i) = 12 ∧ True) (F_r11 : ∀ i, i < 13 → r11 i ∈ L ∧ ln (r11 i) = 3 ∧ True) (D_r9_r11 : ∀ i j, i < 2 → j < 13 → r9 i ≠ r11 j) (J_r11 : ∀ a b, a < 13 → b < 13 → r11 a = r11 b → a = b) (ho : oOk r9 o M) (hob : ∀ d m, o d m ≤ 999) : he_I l yX11_mostNow wsX11_mostNow 2 45 0 0 g [.ref m0] ([(oX11 m0 tw ta sz_ pl at_ fa fw cs fd rfm rt_ to_ rw_ wa ct rk rb cn br sm as_ go sh_ ir oa ob th ig sp_ ki tg of_ kp sf rs), (aM g of_ 2 (he_ro 2 r9)), (aM g rs 13 (he_ro 13 r11))] ++ he_pl g L ln M) (fun (r : Int32) (u : Nat → Nat → Int32) => r = nI (bestN (rsN o 12) 0 3) ∧ rsOk r11 o u 0 ∧ mEx r11 13 M u) (fun (u : Nat → Nat → Int32) => [(oX11 m0 tw ta sz_ pl at_ fa fw cs fd rfm rt_ to_ rw_ wa ct rk rb cn br sm as_ go sh_ ir oa ob th ig sp_ ki tg of_ kp sf rs), (aM g of_ 2 (he_ro 2 r9)), (aM g rs 13 (he_ro 13 r11))] ++ he_pl g L ln u) := by
  refine he_begin (l := l) (g := g) (y := yX11_mostNow) (wl := wsX11_mostNow) (fr := 2) (lo := 45) (mc := 0) (ms := 0) (av := [.ref m0]) (ws := ([(oX11 m0 tw ta sz_ pl at_ fa fw cs fd rfm rt_ to_ rw_ wa ct rk rb cn br sm as_ go sh_ ir oa ob th ig sp_ ki tg of_ kp sf rs), (aM g of_ 2 (he_ro 2 r9)), (aM g rs 13 (he_ro 13 r11))] ++ he_pl g L ln M)) (cc := cX11_mostNow) (maxL := 3) (ret := (some .int)) (fun A => va_Qi (fun (r : Int32) (u : Nat → Nat → Int32) => r = nI (bestN (rsN o 12) 0 3) ∧ rsOk r11 o u 0 ∧ mEx r11 13 M u) (fun u t => he_post g A ((fun (u : Nat → Nat → Int32) => [(oX11 m0 tw ta sz_ pl at_ fa fw cs fd rfm rt_ to_ rw_ wa ct rk rb cn br sm as_ go sh_ ir oa ob th ig sp_ ki tg of_ kp sf rs), (aM g of_ 2 (he_ro 2 r9)), (aM g rs 13 (he_ro 13 r11))] ++ he_pl g L ln u) u) t) A) (by decide) rfl (Nat.le_of_ble_eq_true rfl) ?_
  intro p e s m args below meth c A ls H locs Q hQ hB
  obtain ⟨hx, hb, hr, hml, hown, hts, hlk, hin, hP, hK, hD, hS, hA, hE, hl⟩ := hB
  have hl : lv_has ls 3 [(0, .ref m0)] := hl
  have f76 := hts (.fieldLink RX11 76 "HiredEnemyModel" "rest" "[[I") (iwoX11_mostNow (k := 0) rfl)
  have inX11 : ∀ w ∈ wsX110, w ∈ wsX11_mostNow := innX11_mostNow_X11
  refine lv_aload_n hx hb dX11_mostNow_0 rfl (lv_at hl 0 rfl) ?_
  refine he_cv (wc := ([(oX11 m0 tw ta sz_ pl at_ fa fw cs fd rfm rt_ to_ rw_ wa ct rk rb cn br sm as_ go sh_ ir oa ob th ig sp_ ki tg of_ kp sf rs), (aM g of_ 2 (he_ro 2 r9)), (aM g rs 13 (he_ro 13 r11))] ++ (he_pl g L ln M))) (wr := []) (va_runV (As := []) (rest := []) ⟨hx, hb, hml, hown, hts⟩ (h_X11_laysRest l g m0 fd rfm rt_ to_ rw_ wa rk rb cn br sm as_ go sh_ ki tg of_ kp rs ta sz_ pl at_ fa fw cs ct ir oa ob th ig sp_ sf tw L ln M r9 r11 o (by first | assumption | decide | omega) (by first | assumption | decide | omega) (by first | assumption | decide | omega) (by first | assumption | decide | omega) (by first | assumption | decide | omega) (by first | assumption | decide | omega) H.size) (cwV 0 hts gX11_mostNow_X11_laysRest rfl rfl rfl (by decide +kernel) ⟨Nat.le_of_ble_eq_true rfl, Nat.le_of_ble_eq_true rfl⟩) (he_preV (wc := ([(oX11 m0 tw ta sz_ pl at_ fa fw cs fd rfm rt_ to_ rw_ wa ct rk rb cn br sm as_ go sh_ ir oa ob th ig sp_ ki tg of_ kp sf rs), (aM g of_ 2 (he_ro 2 r9)), (aM g rs 13 (he_ro 13 r11))] ++ (he_pl g L ln M))) hK hP hD hS hA hE (he_is [0, 1, 2] [(oX11 m0 tw ta sz_ pl at_ fa fw cs fd rfm rt_ to_ rw_ wa ct rk rb cn br sm as_ go sh_ ir oa ob th ig sp_ ki tg of_ kp sf rs), (aM g of_ 2 (he_ro 2 r9)), (aM g rs 13 (he_ro 13 r11))] (he_pl g L ln M)) (he_ixP rfl) (he_ndP rfl rfl) 0 rfl rfl) rfl rfl hl.1 rfl (lv_room (Nat.le_of_ble_eq_true rfl)) dX11_mostNow_1 ⟨(Nat.le_of_ble_eq_true rfl), (Nat.le_of_ble_eq_true rfl)⟩) hP hD hS hA (he_is [0, 1, 2] [(oX11 m0 tw ta sz_ pl at_ fa fw cs fd rfm rt_ to_ rw_ wa ct rk rb cn br sm as_ go sh_ ir oa ob th ig sp_ ki tg of_ kp sf rs), (aM g of_ 2 (he_ro 2 r9)), (aM g rs 13 (he_ro 13 r11))] (he_pl g L ln M)) [] (he_ixP rfl) rfl rfl (he_disP (by decide) rfl) (fun u_2 H locs h_3 hP hD hS => ?_)
  obtain ⟨Mu_4, rfl⟩ : ∃ z, z = u_2 := ⟨_, rfl⟩
  try dsimp only at h_3
  obtain ⟨hf_5, hf_6⟩ := h_3
  have hP : va_P g.1 vwCl ([(oX11 m0 tw ta sz_ pl at_ fa fw cs fd rfm rt_ to_ rw_ wa ct rk rb cn br sm as_ go sh_ ir oa ob th ig sp_ ki tg of_ kp sf rs), (aM g of_ 2 (he_ro 2 r9)), (aM g rs 13 (he_ro 13 r11))] ++ he_pl g L ln Mu_4) H := hP
  have hD : va_D A ([(oX11 m0 tw ta sz_ pl at_ fa fw cs fd rfm rt_ to_ rw_ wa ct rk rb cn br sm as_ go sh_ ir oa ob th ig sp_ ki tg of_ kp sf rs), (aM g of_ 2 (he_ro 2 r9)), (aM g rs 13 (he_ro 13 r11))] ++ he_pl g L ln Mu_4) := hD
  have hb90 := rsN_le hob 12 0
  have hb91 := rsN_le hob 12 1
  have hb92 := rsN_le hob 12 2
  refine lv_aload_n hx hb dX11_mostNow_4 rfl (lv_at hl 0 rfl) ?_
  refine va_get (v := .ref rs) (T := TX11) (N := 35) hx hb hts inX11 hown hK hP 0 rfl rfl 34 (by decide) f76 (fun _ h9 => h9) rfl dX11_mostNow_5 ?_
  refine lv_iconst (v := 0) hx hb dX11_mostNow_8 (by decide) ?_
  refine he_aldm hx hb hK hP 2 rfl (0) (by decide) (by decide) (by decide) dX11_mostNow_9 ?_
  refine lv_iconst (v := 0) hx hb dX11_mostNow_10 (by decide) ?_
  refine he_pald hx hb hK hP (F_r11 0 (by decide)).1 (0) (by decide) (by rw [(F_r11 0 (by decide)).2.1]; exact (by decide)) (by rw [(F_r11 0 (by decide)).2.1]; decide) (nI (rsN o 12 0)) (hf_5 0 (Nat.le_refl 0) (by decide) 0 (by omega)) dX11_mostNow_11 ?_
  refine lv_istore_n (lv' := [(1, .int (nI (rsN o 12 0))), (0, .ref m0)]) hx hb dX11_mostNow_12 rfl hl (by decide) rfl (fun ls hl => ?_)
  refine lv_iconst (v := 1) hx hb dX11_mostNow_13 (by decide) ?_
  refine lv_istore_n (lv' := [(2, .int 1), (1, .int (nI (rsN o 12 0))), (0, .ref m0)]) hx hb dX11_mostNow_14 rfl hl (by decide) rfl (fun ls hl => ?_)
  refine lv_iload_n hx hb dX11_mostNow_15 rfl (lv_at hl 0 rfl) ?_
  refine lv_iconst (v := 3) hx hb dX11_mostNow_16 (by decide) ?_
  refine lv_icmp_ge (tgt := 51) hx hb dX11_mostNow_17 (by decide) (fun c_7 => ?_) (fun c_7 => ?_)
  · exact absurd c_7 (by decide)
  · refine lv_aload_n hx hb dX11_mostNow_20 rfl (lv_at hl 2 rfl) ?_
    refine va_get (v := .ref rs) (T := TX11) (N := 35) hx hb hts inX11 hown hK hP 0 rfl rfl 34 (by decide) f76 (fun _ h9 => h9) rfl dX11_mostNow_21 ?_
    refine lv_iconst (v := 0) hx hb dX11_mostNow_24 (by decide) ?_
    refine he_aldm hx hb hK hP 2 rfl (0) (by decide) (by decide) (by decide) dX11_mostNow_25 ?_
    refine lv_iload_n hx hb dX11_mostNow_26 rfl (lv_at hl 0 rfl) ?_
    refine he_pald hx hb hK hP (F_r11 0 (by decide)).1 (1) (by decide) (by rw [(F_r11 0 (by decide)).2.1]; exact (by decide)) (by rw [(F_r11 0 (by decide)).2.1]; decide) (nI (rsN o 12 1)) (hf_5 0 (Nat.le_refl 0) (by decide) 1 (by omega)) dX11_mostNow_27 ?_
    refine lv_iload_n hx hb dX11_mostNow_28 rfl (lv_at hl 1 rfl) ?_
    refine lv_icmp_le (tgt := 43) hx hb dX11_mostNow_29 (by decide) (fun c_8 => ?_) (fun c_8 => ?_)
    · have k_9 : rsN o 12 1 ≤ rsN o 12 0 := (he_cle (a := rsN o 12 1) (b := rsN o 12 0) rfl rfl (by omega) (by omega)).mp c_8
      refine lv_iload_n hx hb dX11_mostNow_43 rfl (lv_at hl 1 rfl) ?_
      refine lv_istore_n (lv' := [(1, .int (nI (rsN o 12 0))), (2, .int 1), (0, .ref m0)]) hx hb dX11_mostNow_44 rfl hl (by decide) rfl (fun ls hl => ?_)
      refine lv_iinc (v := 2) (lv' := [(2, .int 2), (1, .int (nI (rsN o 12 0))), (0, .ref m0)]) hx hb dX11_mostNow_45 hl (k := 1) rfl (by decide) (by decide) rfl (fun ls hl => ?_)
      refine lv_goto (tgt := 15) hx hb dX11_mostNow_48 (by decide) ?_
      refine lv_iload_n hx hb dX11_mostNow_15 rfl (lv_at hl 0 rfl) ?_
      refine lv_iconst (v := 3) hx hb dX11_mostNow_16 (by decide) ?_
      refine lv_icmp_ge (tgt := 51) hx hb dX11_mostNow_17 (by decide) (fun c_10 => ?_) (fun c_10 => ?_)
      · exact absurd c_10 (by decide)
      · refine lv_aload_n hx hb dX11_mostNow_20 rfl (lv_at hl 2 rfl) ?_
        refine va_get (v := .ref rs) (T := TX11) (N := 35) hx hb hts inX11 hown hK hP 0 rfl rfl 34 (by decide) f76 (fun _ h9 => h9) rfl dX11_mostNow_21 ?_
        refine lv_iconst (v := 0) hx hb dX11_mostNow_24 (by decide) ?_
        refine he_aldm hx hb hK hP 2 rfl (0) (by decide) (by decide) (by decide) dX11_mostNow_25 ?_
        refine lv_iload_n hx hb dX11_mostNow_26 rfl (lv_at hl 0 rfl) ?_
        refine he_pald hx hb hK hP (F_r11 0 (by decide)).1 (2) (by decide) (by rw [(F_r11 0 (by decide)).2.1]; exact (by decide)) (by rw [(F_r11 0 (by decide)).2.1]; decide) (nI (rsN o 12 2)) (hf_5 0 (Nat.le_refl 0) (by decide) 2 (by omega)) dX11_mostNow_27 ?_
        refine lv_iload_n hx hb dX11_mostNow_28 rfl (lv_at hl 1 rfl) ?_
        refine lv_icmp_le (tgt := 43) hx hb dX11_mostNow_29 (by decide) (fun c_11 => ?_) (fun c_11 => ?_)
        · have k_12 : rsN o 12 2 ≤ rsN o 12 0 := (he_cle (a := rsN o 12 2) (b := rsN o 12 0) rfl rfl (by omega) (by omega)).mp c_11
          refine lv_iload_n hx hb dX11_mostNow_43 rfl (lv_at hl 1 rfl) ?_
          refine lv_istore_n (lv' := [(1, .int (nI (rsN o 12 0))), (2, .int 2), (0, .ref m0)]) hx hb dX11_mostNow_44 rfl hl (by decide) rfl (fun ls hl => ?_)
          refine lv_iinc (v := 3) (lv' := [(2, .int 3), (1, .int (nI (rsN o 12 0))), (0, .ref m0)]) hx hb dX11_mostNow_45 hl (k := 1) rfl (by decide) (by decide) rfl (fun ls hl => ?_)
          refine lv_goto (tgt := 15) hx hb dX11_mostNow_48 (by decide) ?_
          refine lv_iload_n hx hb dX11_mostNow_15 rfl (lv_at hl 0 rfl) ?_
          refine lv_iconst (v := 3) hx hb dX11_mostNow_16 (by decide) ?_
          refine lv_icmp_ge (tgt := 51) hx hb dX11_mostNow_17 (by decide) (fun c_13 => ?_) (fun c_13 => ?_)
          · refine lv_iload_n hx hb dX11_mostNow_51 rfl (lv_at hl 1 rfl) ?_
            exact he_ri hQ hx hb hr hlk hP hD hS dX11_mostNow_52 (Nat.le_of_ble_eq_true rfl) (Nat.le_of_ble_eq_true rfl) (Mu_4) (rfl) (⟨by rw [best_0]; congr 1; (repeat' split) <;> omega, hf_5, hf_6⟩)
          · exact absurd (by decide) c_13
        · have k_14 : ¬ (rsN o 12 2 ≤ rsN o 12 0) := fun h9 => c_11 ((he_cle (a := rsN o 12 2) (b := rsN o 12 0) rfl rfl (by omega) (by omega)).mpr h9)
          refine lv_aload_n hx hb dX11_mostNow_32 rfl (lv_at hl 2 rfl) ?_
          refine va_get (v := .ref rs) (T := TX11) (N := 35) hx hb hts inX11 hown hK hP 0 rfl rfl 34 (by decide) f76 (fun _ h9 => h9) rfl dX11_mostNow_33 ?_
          refine lv_iconst (v := 0) hx hb dX11_mostNow_36 (by decide) ?_
          refine he_aldm hx hb hK hP 2 rfl (0) (by decide) (by decide) (by decide) dX11_mostNow_37 ?_
          refine lv_iload_n hx hb dX11_mostNow_38 rfl (lv_at hl 0 rfl) ?_
          refine he_pald hx hb hK hP (F_r11 0 (by decide)).1 (2) (by decide) (by rw [(F_r11 0 (by decide)).2.1]; exact (by decide)) (by rw [(F_r11 0 (by decide)).2.1]; decide) (nI (rsN o 12 2)) (hf_5 0 (Nat.le_refl 0) (by decide) 2 (by omega)) dX11_mostNow_39 ?_
          refine lv_goto (tgt := 44) hx hb dX11_mostNow_40 (by decide) ?_
          refine lv_istore_n (lv' := [(1, .int (nI (rsN o 12 2))), (2, .int 2), (0, .ref m0)]) hx hb dX11_mostNow_44 rfl hl (by decide) rfl (fun ls hl => ?_)
          refine lv_iinc (v := 3) (lv' := [(2, .int 3), (1, .int (nI (rsN o 12 2))), (0, .ref m0)]) hx hb dX11_mostNow_45 hl (k := 1) rfl (by decide) (by decide) rfl (fun ls hl => ?_)
          refine lv_goto (tgt := 15) hx hb dX11_mostNow_48 (by decide) ?_
          refine lv_iload_n hx hb dX11_mostNow_15 rfl (lv_at hl 0 rfl) ?_
          refine lv_iconst (v := 3) hx hb dX11_mostNow_16 (by decide) ?_
          refine lv_icmp_ge (tgt := 51) hx hb dX11_mostNow_17 (by decide) (fun c_15 => ?_) (fun c_15 => ?_)
          · refine lv_iload_n hx hb dX11_mostNow_51 rfl (lv_at hl 1 rfl) ?_
            exact he_ri hQ hx hb hr hlk hP hD hS dX11_mostNow_52 (Nat.le_of_ble_eq_true rfl) (Nat.le_of_ble_eq_true rfl) (Mu_4) (rfl) (⟨by rw [best_0]; congr 1; (repeat' split) <;> omega, hf_5, hf_6⟩)
          · exact absurd (by decide) c_15
    · have k_16 : ¬ (rsN o 12 1 ≤ rsN o 12 0) := fun h9 => c_8 ((he_cle (a := rsN o 12 1) (b := rsN o 12 0) rfl rfl (by omega) (by omega)).mpr h9)
      refine lv_aload_n hx hb dX11_mostNow_32 rfl (lv_at hl 2 rfl) ?_
      refine va_get (v := .ref rs) (T := TX11) (N := 35) hx hb hts inX11 hown hK hP 0 rfl rfl 34 (by decide) f76 (fun _ h9 => h9) rfl dX11_mostNow_33 ?_
      refine lv_iconst (v := 0) hx hb dX11_mostNow_36 (by decide) ?_
      refine he_aldm hx hb hK hP 2 rfl (0) (by decide) (by decide) (by decide) dX11_mostNow_37 ?_
      refine lv_iload_n hx hb dX11_mostNow_38 rfl (lv_at hl 0 rfl) ?_
      refine he_pald hx hb hK hP (F_r11 0 (by decide)).1 (1) (by decide) (by rw [(F_r11 0 (by decide)).2.1]; exact (by decide)) (by rw [(F_r11 0 (by decide)).2.1]; decide) (nI (rsN o 12 1)) (hf_5 0 (Nat.le_refl 0) (by decide) 1 (by omega)) dX11_mostNow_39 ?_
      refine lv_goto (tgt := 44) hx hb dX11_mostNow_40 (by decide) ?_
      refine lv_istore_n (lv' := [(1, .int (nI (rsN o 12 1))), (2, .int 1), (0, .ref m0)]) hx hb dX11_mostNow_44 rfl hl (by decide) rfl (fun ls hl => ?_)
      refine lv_iinc (v := 2) (lv' := [(2, .int 2), (1, .int (nI (rsN o 12 1))), (0, .ref m0)]) hx hb dX11_mostNow_45 hl (k := 1) rfl (by decide) (by decide) rfl (fun ls hl => ?_)
      refine lv_goto (tgt := 15) hx hb dX11_mostNow_48 (by decide) ?_
      refine lv_iload_n hx hb dX11_mostNow_15 rfl (lv_at hl 0 rfl) ?_
      refine lv_iconst (v := 3) hx hb dX11_mostNow_16 (by decide) ?_
      refine lv_icmp_ge (tgt := 51) hx hb dX11_mostNow_17 (by decide) (fun c_17 => ?_) (fun c_17 => ?_)
      · exact absurd c_17 (by decide)
      · refine lv_aload_n hx hb dX11_mostNow_20 rfl (lv_at hl 2 rfl) ?_
        refine va_get (v := .ref rs) (T := TX11) (N := 35) hx hb hts inX11 hown hK hP 0 rfl rfl 34 (by decide) f76 (fun _ h9 => h9) rfl dX11_mostNow_21 ?_
        refine lv_iconst (v := 0) hx hb dX11_mostNow_24 (by decide) ?_
        refine he_aldm hx hb hK hP 2 rfl (0) (by decide) (by decide) (by decide) dX11_mostNow_25 ?_
        refine lv_iload_n hx hb dX11_mostNow_26 rfl (lv_at hl 0 rfl) ?_
        refine he_pald hx hb hK hP (F_r11 0 (by decide)).1 (2) (by decide) (by rw [(F_r11 0 (by decide)).2.1]; exact (by decide)) (by rw [(F_r11 0 (by decide)).2.1]; decide) (nI (rsN o 12 2)) (hf_5 0 (Nat.le_refl 0) (by decide) 2 (by omega)) dX11_mostNow_27 ?_
        refine lv_iload_n hx hb dX11_mostNow_28 rfl (lv_at hl 1 rfl) ?_
        refine lv_icmp_le (tgt := 43) hx hb dX11_mostNow_29 (by decide) (fun c_18 => ?_) (fun c_18 => ?_)
        · have k_19 : rsN o 12 2 ≤ rsN o 12 1 := (he_cle (a := rsN o 12 2) (b := rsN o 12 1) rfl rfl (by omega) (by omega)).mp c_18
          refine lv_iload_n hx hb dX11_mostNow_43 rfl (lv_at hl 1 rfl) ?_
          refine lv_istore_n (lv' := [(1, .int (nI (rsN o 12 1))), (2, .int 2), (0, .ref m0)]) hx hb dX11_mostNow_44 rfl hl (by decide) rfl (fun ls hl => ?_)
          refine lv_iinc (v := 3) (lv' := [(2, .int 3), (1, .int (nI (rsN o 12 1))), (0, .ref m0)]) hx hb dX11_mostNow_45 hl (k := 1) rfl (by decide) (by decide) rfl (fun ls hl => ?_)
          refine lv_goto (tgt := 15) hx hb dX11_mostNow_48 (by decide) ?_
          refine lv_iload_n hx hb dX11_mostNow_15 rfl (lv_at hl 0 rfl) ?_
          refine lv_iconst (v := 3) hx hb dX11_mostNow_16 (by decide) ?_
          refine lv_icmp_ge (tgt := 51) hx hb dX11_mostNow_17 (by decide) (fun c_20 => ?_) (fun c_20 => ?_)
          · refine lv_iload_n hx hb dX11_mostNow_51 rfl (lv_at hl 1 rfl) ?_
            exact he_ri hQ hx hb hr hlk hP hD hS dX11_mostNow_52 (Nat.le_of_ble_eq_true rfl) (Nat.le_of_ble_eq_true rfl) (Mu_4) (rfl) (⟨by rw [best_0]; congr 1; (repeat' split) <;> omega, hf_5, hf_6⟩)
          · exact absurd (by decide) c_20
        · have k_21 : ¬ (rsN o 12 2 ≤ rsN o 12 1) := fun h9 => c_18 ((he_cle (a := rsN o 12 2) (b := rsN o 12 1) rfl rfl (by omega) (by omega)).mpr h9)
          refine lv_aload_n hx hb dX11_mostNow_32 rfl (lv_at hl 2 rfl) ?_
          refine va_get (v := .ref rs) (T := TX11) (N := 35) hx hb hts inX11 hown hK hP 0 rfl rfl 34 (by decide) f76 (fun _ h9 => h9) rfl dX11_mostNow_33 ?_
          refine lv_iconst (v := 0) hx hb dX11_mostNow_36 (by decide) ?_
          refine he_aldm hx hb hK hP 2 rfl (0) (by decide) (by decide) (by decide) dX11_mostNow_37 ?_
          refine lv_iload_n hx hb dX11_mostNow_38 rfl (lv_at hl 0 rfl) ?_
          refine he_pald hx hb hK hP (F_r11 0 (by decide)).1 (2) (by decide) (by rw [(F_r11 0 (by decide)).2.1]; exact (by decide)) (by rw [(F_r11 0 (by decide)).2.1]; decide) (nI (rsN o 12 2)) (hf_5 0 (Nat.le_refl 0) (by decide) 2 (by omega)) dX11_mostNow_39 ?_
          refine lv_goto (tgt := 44) hx hb dX11_mostNow_40 (by decide) ?_
          refine lv_istore_n (lv' := [(1, .int (nI (rsN o 12 2))), (2, .int 2), (0, .ref m0)]) hx hb dX11_mostNow_44 rfl hl (by decide) rfl (fun ls hl => ?_)
          refine lv_iinc (v := 3) (lv' := [(2, .int 3), (1, .int (nI (rsN o 12 2))), (0, .ref m0)]) hx hb dX11_mostNow_45 hl (k := 1) rfl (by decide) (by decide) rfl (fun ls hl => ?_)
          refine lv_goto (tgt := 15) hx hb dX11_mostNow_48 (by decide) ?_
          refine lv_iload_n hx hb dX11_mostNow_15 rfl (lv_at hl 0 rfl) ?_
          refine lv_iconst (v := 3) hx hb dX11_mostNow_16 (by decide) ?_
          refine lv_icmp_ge (tgt := 51) hx hb dX11_mostNow_17 (by decide) (fun c_22 => ?_) (fun c_22 => ?_)
          · refine lv_iload_n hx hb dX11_mostNow_51 rfl (lv_at hl 1 rfl) ?_
            exact he_ri hQ hx hb hr hlk hP hD hS dX11_mostNow_52 (Nat.le_of_ble_eq_true rfl) (Nat.le_of_ble_eq_true rfl) (Mu_4) (rfl) (⟨by rw [best_0]; congr 1; (repeat' split) <;> omega, hf_5, hf_6⟩)
          · exact absurd (by decide) c_22
set_option maxHeartbeats 4000000 in
set_option maxRecDepth 100000 in
theorem h_X11_most (l : Launch) (g : he_G) (m0 : Nat) (fd : Nat) (rfm : Nat) (rt_ : Nat) (to_ : Nat) (rw_ : Nat) (wa : Nat) (rk : Nat) (rb : Nat) (cn : Nat) (br : Nat) (sm : Nat) (as_ : Nat) (go : Nat) (sh_ : Nat) (ki : Nat) (tg : Nat) (of_ : Nat) (kp : Nat) (rs : Nat) (ta : Int32) (sz_ : Int32) (pl : Int32) (at_ : Int32) (fa : Int32) (fw : Int32) (cs : Int32) (ct : Int32) (ir : Int32) (oa : Int32) (ob : Int32) (th : Int32) (ig : Int32) (sp_ : Int32) (sf : Int32) (tw : Int32) (L : List Nat) (ln : Nat → Nat) (M : Nat → Nat → Int32) (r9 : Nat → Nat) (r11 : Nat → Nat) (o : Nat → Nat → Nat) (F_r9 : ∀ i, i < 2 → r9 i ∈ L ∧ ln (r9 i) = 12 ∧ True) (F_r11 : ∀ i, i < 13 → r11 i ∈ L ∧ ln (r11 i) = 3 ∧ True) (D_r9_r11 : ∀ i j, i < 2 → j < 13 → r9 i ≠ r11 j) (J_r11 : ∀ a b, a < 13 → b < 13 → r11 a = r11 b → a = b) (ho : oOk r9 o M) (hob : ∀ d m, o d m ≤ 999) : he_I l yX11_most wsX11_most 3 67 0 0 g [.ref m0] ([(oX11 m0 tw ta sz_ pl at_ fa fw cs fd rfm rt_ to_ rw_ wa ct rk rb cn br sm as_ go sh_ ir oa ob th ig sp_ ki tg of_ kp sf rs), (aM g of_ 2 (he_ro 2 r9)), (aM g rs 13 (he_ro 13 r11))] ++ he_pl g L ln M) (fun (r : Int32) (u : Nat → Nat → Int32) => r = nI (bestN (rsN o 12) 0 3) ∧ mEx r11 13 M u) (fun (u : Nat → Nat → Int32) => [(oX11 m0 0 ta sz_ pl at_ fa fw cs fd rfm rt_ to_ rw_ wa ct rk rb cn br sm as_ go sh_ ir oa ob th ig sp_ ki tg of_ kp sf rs), (aM g of_ 2 (he_ro 2 r9)), (aM g rs 13 (he_ro 13 r11))] ++ he_pl g L ln u) := by
  refine he_begin (l := l) (g := g) (y := yX11_most) (wl := wsX11_most) (fr := 3) (lo := 67) (mc := 0) (ms := 0) (av := [.ref m0]) (ws := ([(oX11 m0 tw ta sz_ pl at_ fa fw cs fd rfm rt_ to_ rw_ wa ct rk rb cn br sm as_ go sh_ ir oa ob th ig sp_ ki tg of_ kp sf rs), (aM g of_ 2 (he_ro 2 r9)), (aM g rs 13 (he_ro 13 r11))] ++ he_pl g L ln M)) (cc := cX11_most) (maxL := 1) (ret := (some .int)) (fun A => va_Qi (fun (r : Int32) (u : Nat → Nat → Int32) => r = nI (bestN (rsN o 12) 0 3) ∧ mEx r11 13 M u) (fun u t => he_post g A ((fun (u : Nat → Nat → Int32) => [(oX11 m0 0 ta sz_ pl at_ fa fw cs fd rfm rt_ to_ rw_ wa ct rk rb cn br sm as_ go sh_ ir oa ob th ig sp_ ki tg of_ kp sf rs), (aM g of_ 2 (he_ro 2 r9)), (aM g rs 13 (he_ro 13 r11))] ++ he_pl g L ln u) u) t) A) (by decide) rfl (Nat.le_of_ble_eq_true rfl) ?_
  intro p e s m args below meth c A ls H locs Q hQ hB
  obtain ⟨hx, hb, hr, hml, hown, hts, hlk, hin, hP, hK, hD, hS, hA, hE, hl⟩ := hB
  have hl : lv_has ls 1 [(0, .ref m0)] := hl
  have f85 := hts (.fieldLink RX11 85 "HiredEnemyModel" "thrown" "I") (iwoX11_most (k := 0) rfl)
  have inX11 : ∀ w ∈ wsX110, w ∈ wsX11_most := innX11_most_X11
  refine lv_aload_n hx hb dX11_most_0 rfl (lv_at hl 0 rfl) ?_
  refine lv_iconst (v := 0) hx hb dX11_most_1 (by decide) ?_
  refine va_put (v := .int 0) (ty := .int) (T := TX11) (N := 35) hx hb hts inX11 tyX11 tyX11_ok nmX11 hown hK hP hD hS 0 rfl rfl 0 (by decide) f85 (fun _ h9 => h9) rfl (by decide +kernel) rfl rfl (Nat.le_of_ble_eq_true rfl) dX11_most_2 (fun H locs hP hD hS => ?_)
  have hP : va_P g.1 vwCl ([(oX11 m0 0 ta sz_ pl at_ fa fw cs fd rfm rt_ to_ rw_ wa ct rk rb cn br sm as_ go sh_ ir oa ob th ig sp_ ki tg of_ kp sf rs), (aM g of_ 2 (he_ro 2 r9)), (aM g rs 13 (he_ro 13 r11))] ++ he_pl g L ln M) H := hP
  have hD : va_D A ([(oX11 m0 0 ta sz_ pl at_ fa fw cs fd rfm rt_ to_ rw_ wa ct rk rb cn br sm as_ go sh_ ir oa ob th ig sp_ ki tg of_ kp sf rs), (aM g of_ 2 (he_ro 2 r9)), (aM g rs 13 (he_ro 13 r11))] ++ he_pl g L ln M) := hD
  refine lv_aload_n hx hb dX11_most_5 rfl (lv_at hl 0 rfl) ?_
  refine he_ci (wc := ([(oX11 m0 0 ta sz_ pl at_ fa fw cs fd rfm rt_ to_ rw_ wa ct rk rb cn br sm as_ go sh_ ir oa ob th ig sp_ ki tg of_ kp sf rs), (aM g of_ 2 (he_ro 2 r9)), (aM g rs 13 (he_ro 13 r11))] ++ (he_pl g L ln M))) (wr := []) (va_runV (As := []) (rest := []) ⟨hx, hb, hml, hown, hts⟩ (h_X11_mostNow l g m0 fd rfm rt_ to_ rw_ wa rk rb cn br sm as_ go sh_ ki tg of_ kp rs ta sz_ pl at_ fa fw cs ct ir oa ob th ig sp_ sf 0 L ln M r9 r11 o (by first | assumption | decide | omega) (by first | assumption | decide | omega) (by first | assumption | decide | omega) (by first | assumption | decide | omega) (by first | assumption | decide | omega) (by first | assumption | decide | omega) H.size) (cwV 0 hts gX11_most_X11_mostNow rfl rfl rfl (by decide +kernel) ⟨Nat.le_of_ble_eq_true rfl, Nat.le_of_ble_eq_true rfl⟩) (he_preV (wc := ([(oX11 m0 0 ta sz_ pl at_ fa fw cs fd rfm rt_ to_ rw_ wa ct rk rb cn br sm as_ go sh_ ir oa ob th ig sp_ ki tg of_ kp sf rs), (aM g of_ 2 (he_ro 2 r9)), (aM g rs 13 (he_ro 13 r11))] ++ (he_pl g L ln M))) hK hP hD hS hA hE (he_is [0, 1, 2] [(oX11 m0 0 ta sz_ pl at_ fa fw cs fd rfm rt_ to_ rw_ wa ct rk rb cn br sm as_ go sh_ ir oa ob th ig sp_ ki tg of_ kp sf rs), (aM g of_ 2 (he_ro 2 r9)), (aM g rs 13 (he_ro 13 r11))] (he_pl g L ln M)) (he_ixP rfl) (he_ndP rfl rfl) 0 rfl rfl) rfl rfl hl.1 rfl (lv_room (Nat.le_of_ble_eq_true rfl)) dX11_most_6 ⟨(Nat.le_of_ble_eq_true rfl), (Nat.le_of_ble_eq_true rfl)⟩) hP hD hS hA (he_is [0, 1, 2] [(oX11 m0 0 ta sz_ pl at_ fa fw cs fd rfm rt_ to_ rw_ wa ct rk rb cn br sm as_ go sh_ ir oa ob th ig sp_ ki tg of_ kp sf rs), (aM g of_ 2 (he_ro 2 r9)), (aM g rs 13 (he_ro 13 r11))] (he_pl g L ln M)) [] (he_ixP rfl) rfl rfl (he_disP (by decide) rfl) (fun r_1 u_2 H locs h_3 hP hD hS => ?_)
  obtain ⟨Mu_4, rfl⟩ : ∃ z, z = u_2 := ⟨_, rfl⟩
  try dsimp only at h_3
  obtain ⟨rfl, hf_5, hf_6⟩ := h_3
  have hP : va_P g.1 vwCl ([(oX11 m0 0 ta sz_ pl at_ fa fw cs fd rfm rt_ to_ rw_ wa ct rk rb cn br sm as_ go sh_ ir oa ob th ig sp_ ki tg of_ kp sf rs), (aM g of_ 2 (he_ro 2 r9)), (aM g rs 13 (he_ro 13 r11))] ++ he_pl g L ln Mu_4) H := hP
  have hD : va_D A ([(oX11 m0 0 ta sz_ pl at_ fa fw cs fd rfm rt_ to_ rw_ wa ct rk rb cn br sm as_ go sh_ ir oa ob th ig sp_ ki tg of_ kp sf rs), (aM g of_ 2 (he_ro 2 r9)), (aM g rs 13 (he_ro 13 r11))] ++ he_pl g L ln Mu_4) := hD
  exact he_ri hQ hx hb hr hlk hP hD hS dX11_most_9 (Nat.le_of_ble_eq_true rfl) (Nat.le_of_ble_eq_true rfl) (Mu_4) (rfl) (⟨rfl, hf_6⟩)
set_option maxHeartbeats 4000000 in
set_option maxRecDepth 100000 in
theorem h_X11_serves (l : Launch) (g : he_G) (m0 : Nat) (fd : Nat) (rfm : Nat) (rt_ : Nat) (to_ : Nat) (rw_ : Nat) (wa : Nat) (rk : Nat) (rb : Nat) (cn : Nat) (br : Nat) (sm : Nat) (as_ : Nat) (go : Nat) (sh_ : Nat) (ki : Nat) (tg : Nat) (of_ : Nat) (kp : Nat) (rs : Nat) (ta : Int32) (sz_ : Int32) (pl : Int32) (at_ : Int32) (fa : Int32) (fw : Int32) (cs : Int32) (ct : Int32) (ir : Int32) (oa : Int32) (ob : Int32) (th : Int32) (ig : Int32) (sp_ : Int32) (sf : Int32) (tw : Int32) (L : List Nat) (ln : Nat → Nat) (M : Nat → Nat → Int32) (r9 : Nat → Nat) (r11 : Nat → Nat) (o : Nat → Nat → Nat) (n : Nat) (F_r9 : ∀ i, i < 2 → r9 i ∈ L ∧ ln (r9 i) = 12 ∧ True) (F_r11 : ∀ i, i < 13 → r11 i ∈ L ∧ ln (r11 i) = 3 ∧ True) (D_r9_r11 : ∀ i j, i < 2 → j < 13 → r9 i ≠ r11 j) (J_r11 : ∀ a b, a < 13 → b < 13 → r11 a = r11 b → a = b) (ho : oOk r9 o M) (hob : ∀ d m, o d m ≤ 999) (hn : n ≤ 11) : he_I l yX11_serves wsX11_serves 3 67 0 0 g [.ref m0, .int (nI n)] ([(oX11 m0 tw ta sz_ pl at_ fa fw cs fd rfm rt_ to_ rw_ wa ct rk rb cn br sm as_ go sh_ ir oa ob th ig sp_ ki tg of_ kp sf rs), (aM g of_ 2 (he_ro 2 r9)), (aM g rs 13 (he_ro 13 r11))] ++ he_pl g L ln M) (fun (r : Int32) (u : Nat → Nat → Int32) => mEx r11 13 M u) (fun (u : Nat → Nat → Int32) => [(oX11 m0 0 ta sz_ pl at_ fa fw cs fd rfm rt_ to_ rw_ wa ct rk rb cn br sm as_ go sh_ ir oa ob th ig sp_ ki tg of_ kp sf rs), (aM g of_ 2 (he_ro 2 r9)), (aM g rs 13 (he_ro 13 r11))] ++ he_pl g L ln u) := by
  refine he_begin (l := l) (g := g) (y := yX11_serves) (wl := wsX11_serves) (fr := 3) (lo := 67) (mc := 0) (ms := 0) (av := [.ref m0, .int (nI n)]) (ws := ([(oX11 m0 tw ta sz_ pl at_ fa fw cs fd rfm rt_ to_ rw_ wa ct rk rb cn br sm as_ go sh_ ir oa ob th ig sp_ ki tg of_ kp sf rs), (aM g of_ 2 (he_ro 2 r9)), (aM g rs 13 (he_ro 13 r11))] ++ he_pl g L ln M)) (cc := cX11_serves) (maxL := 6) (ret := (some .int)) (fun A => va_Qi (fun (r : Int32) (u : Nat → Nat → Int32) => mEx r11 13 M u) (fun u t => he_post g A ((fun (u : Nat → Nat → Int32) => [(oX11 m0 0 ta sz_ pl at_ fa fw cs fd rfm rt_ to_ rw_ wa ct rk rb cn br sm as_ go sh_ ir oa ob th ig sp_ ki tg of_ kp sf rs), (aM g of_ 2 (he_ro 2 r9)), (aM g rs 13 (he_ro 13 r11))] ++ he_pl g L ln u) u) t) A) (by decide) rfl (Nat.le_of_ble_eq_true rfl) ?_
  intro p e s m args below meth c A ls H locs Q hQ hB
  obtain ⟨hx, hb, hr, hml, hown, hts, hlk, hin, hP, hK, hD, hS, hA, hE, hl⟩ := hB
  have hl : lv_has ls 6 [(0, .ref m0), (1, .int (nI n))] := hl
  have f85 := hts (.fieldLink RX11 85 "HiredEnemyModel" "thrown" "I") (iwoX11_serves (k := 0) rfl)
  have inX11 : ∀ w ∈ wsX110, w ∈ wsX11_serves := innX11_serves_X11
  have f76 := hts (.fieldLink RX11 76 "HiredEnemyModel" "rest" "[[I") (iwoX11_serves (k := 1) rfl)
  have f70 := hts (.fieldLink RX11 70 "HiredEnemyModel" "offered" "[[I") (iwoX11_serves (k := 2) rfl)
  refine lv_aload_n hx hb dX11_serves_0 rfl (lv_at hl 0 rfl) ?_
  refine lv_iconst (v := 0) hx hb dX11_serves_1 (by decide) ?_
  refine va_put (v := .int 0) (ty := .int) (T := TX11) (N := 35) hx hb hts inX11 tyX11 tyX11_ok nmX11 hown hK hP hD hS 0 rfl rfl 0 (by decide) f85 (fun _ h9 => h9) rfl (by decide +kernel) rfl rfl (Nat.le_of_ble_eq_true rfl) dX11_serves_2 (fun H locs hP hD hS => ?_)
  have hP : va_P g.1 vwCl ([(oX11 m0 0 ta sz_ pl at_ fa fw cs fd rfm rt_ to_ rw_ wa ct rk rb cn br sm as_ go sh_ ir oa ob th ig sp_ ki tg of_ kp sf rs), (aM g of_ 2 (he_ro 2 r9)), (aM g rs 13 (he_ro 13 r11))] ++ he_pl g L ln M) H := hP
  have hD : va_D A ([(oX11 m0 0 ta sz_ pl at_ fa fw cs fd rfm rt_ to_ rw_ wa ct rk rb cn br sm as_ go sh_ ir oa ob th ig sp_ ki tg of_ kp sf rs), (aM g of_ 2 (he_ro 2 r9)), (aM g rs 13 (he_ro 13 r11))] ++ he_pl g L ln M) := hD
  refine lv_aload_n hx hb dX11_serves_5 rfl (lv_at hl 0 rfl) ?_
  refine lv_iload_n hx hb dX11_serves_6 rfl (lv_at hl 1 rfl) ?_
  refine lv_iconst (v := 0) hx hb dX11_serves_7 (by decide) ?_
  refine lv_bipush (v := 11) hx hb dX11_serves_8 (by decide) ?_
  refine he_ci (wc := []) (wr := ([(oX11 m0 0 ta sz_ pl at_ fa fw cs fd rfm rt_ to_ rw_ wa ct rk rb cn br sm as_ go sh_ ir oa ob th ig sp_ ki tg of_ kp sf rs), (aM g of_ 2 (he_ro 2 r9)), (aM g rs 13 (he_ro 13 r11))] ++ (he_pl g L ln M))) (va_runS (As := [.int (nI n), .int 0, .int 11]) (rest := [.ref m0]) ⟨hx, hb, hml, hown, hts⟩ (c_X11_in l g (nI n) 0 11 H.size) (va_cwS 3 hts gX11_serves_X11_in rfl rfl rfl (by decide +kernel) ⟨Nat.le_of_ble_eq_true rfl, Nat.le_of_ble_eq_true rfl⟩) (he_preS (wc := []) hK hP hD hS hA hE [] rfl rfl) rfl rfl hl.1 rfl (lv_room (Nat.le_of_ble_eq_true rfl)) dX11_serves_10 ⟨(Nat.le_of_ble_eq_true rfl), (Nat.le_of_ble_eq_true rfl)⟩) hP hD hS hA [] (he_is [0, 1, 2] [(oX11 m0 0 ta sz_ pl at_ fa fw cs fd rfm rt_ to_ rw_ wa ct rk rb cn br sm as_ go sh_ ir oa ob th ig sp_ ki tg of_ kp sf rs), (aM g of_ 2 (he_ro 2 r9)), (aM g rs 13 (he_ro 13 r11))] (he_pl g L ln M)) rfl (he_ixP rfl) (he_ndP rfl rfl) (he_disN (by decide) rfl) (fun r_1 u_2 H locs h_3 hP hD hS => ?_)
  have hP := va_P.swap hP
  have hD := va_D.swap hD
  subst h_3
  have hP : va_P g.1 vwCl ([(oX11 m0 0 ta sz_ pl at_ fa fw cs fd rfm rt_ to_ rw_ wa ct rk rb cn br sm as_ go sh_ ir oa ob th ig sp_ ki tg of_ kp sf rs), (aM g of_ 2 (he_ro 2 r9)), (aM g rs 13 (he_ro 13 r11))] ++ he_pl g L ln M) H := hP
  have hD : va_D A ([(oX11 m0 0 ta sz_ pl at_ fa fw cs fd rfm rt_ to_ rw_ wa ct rk rb cn br sm as_ go sh_ ir oa ob th ig sp_ ki tg of_ kp sf rs), (aM g of_ 2 (he_ro 2 r9)), (aM g rs 13 (he_ro 13 r11))] ++ he_pl g L ln M) := hD
  refine he_top (1) (he_within_in (a0 := 0) (B := 11) rfl rfl (by omega) (by omega) (by decide)) ?_
  refine lv_if_ne (tgt := 20) hx hb dX11_serves_13 (by decide) (fun c_4 => ?_) (fun c_4 => ?_)
  · refine lv_iconst (v := 0) hx hb dX11_serves_20 (by decide) ?_
    refine lv_iconst (v := 1) hx hb dX11_serves_21 (by decide) ?_
    refine lv_iconst (v := 2) hx hb dX11_serves_22 (by decide) ?_
    refine he_ci (wc := [(oX11 m0 0 ta sz_ pl at_ fa fw cs fd rfm rt_ to_ rw_ wa ct rk rb cn br sm as_ go sh_ ir oa ob th ig sp_ ki tg of_ kp sf rs)]) (wr := ([(aM g of_ 2 (he_ro 2 r9)), (aM g rs 13 (he_ro 13 r11))] ++ (he_pl g L ln M))) (va_runV (As := [.int 0, .int 1, .int 2]) (rest := []) ⟨hx, hb, hml, hown, hts⟩ (c_X11_bad0 l g m0 fd rfm rt_ to_ rw_ wa rk rb cn br sm as_ go sh_ ki tg of_ kp rs ta sz_ pl at_ fa fw cs ct ir oa ob th ig sp_ sf 1 2 H.size) (cwV 3 hts gX11_serves_X11_bad rfl rfl rfl (by decide +kernel) ⟨Nat.le_of_ble_eq_true rfl, Nat.le_of_ble_eq_true rfl⟩) (he_preV (wc := [(oX11 m0 0 ta sz_ pl at_ fa fw cs fd rfm rt_ to_ rw_ wa ct rk rb cn br sm as_ go sh_ ir oa ob th ig sp_ ki tg of_ kp sf rs)]) hK hP hD hS hA hE [0] rfl rfl 0 rfl rfl) rfl rfl hl.1 rfl (lv_room (Nat.le_of_ble_eq_true rfl)) dX11_serves_23 ⟨(Nat.le_of_ble_eq_true rfl), (Nat.le_of_ble_eq_true rfl)⟩) hP hD hS hA [0] (he_is [1, 2] [(oX11 m0 0 ta sz_ pl at_ fa fw cs fd rfm rt_ to_ rw_ wa ct rk rb cn br sm as_ go sh_ ir oa ob th ig sp_ ki tg of_ kp sf rs), (aM g of_ 2 (he_ro 2 r9)), (aM g rs 13 (he_ro 13 r11))] (he_pl g L ln M)) rfl (he_ixP rfl) (he_ndP rfl rfl) (he_disN (by decide) rfl) (fun r_5 u_6 H locs h_7 hP hD hS => ?_)
    have hP := va_P.swap hP
    have hD := va_D.swap hD
    subst h_7
    have hP : va_P g.1 vwCl ([(aM g of_ 2 (he_ro 2 r9)), (aM g rs 13 (he_ro 13 r11)), (oX11 m0 0 ta sz_ pl at_ fa fw cs fd rfm rt_ to_ rw_ wa ct rk rb cn br sm as_ go sh_ ir oa ob th ig sp_ ki tg of_ kp sf rs)] ++ he_pl g L ln M) H := hP
    have hD : va_D A ([(aM g of_ 2 (he_ro 2 r9)), (aM g rs 13 (he_ro 13 r11)), (oX11 m0 0 ta sz_ pl at_ fa fw cs fd rfm rt_ to_ rw_ wa ct rk rb cn br sm as_ go sh_ ir oa ob th ig sp_ ki tg of_ kp sf rs)] ++ he_pl g L ln M) := hD
    refine lv_if_eq (tgt := 31) hx hb dX11_serves_26 (by decide) (fun c_8 => ?_) (fun c_8 => ?_)
    · refine lv_aload_n hx hb dX11_serves_31 rfl (lv_at hl 0 rfl) ?_
      refine he_ci (wc := ([(oX11 m0 0 ta sz_ pl at_ fa fw cs fd rfm rt_ to_ rw_ wa ct rk rb cn br sm as_ go sh_ ir oa ob th ig sp_ ki tg of_ kp sf rs), (aM g of_ 2 (he_ro 2 r9)), (aM g rs 13 (he_ro 13 r11))] ++ (he_pl g L ln M))) (wr := []) (va_runV (As := []) (rest := []) ⟨hx, hb, hml, hown, hts⟩ (h_X11_mostNow l g m0 fd rfm rt_ to_ rw_ wa rk rb cn br sm as_ go sh_ ki tg of_ kp rs ta sz_ pl at_ fa fw cs ct ir oa ob th ig sp_ sf 0 L ln M r9 r11 o (by first | assumption | decide | omega) (by first | assumption | decide | omega) (by first | assumption | decide | omega) (by first | assumption | decide | omega) (by first | assumption | decide | omega) (by first | assumption | decide | omega) H.size) (cwV 0 hts gX11_serves_X11_mostNow rfl rfl rfl (by decide +kernel) ⟨Nat.le_of_ble_eq_true rfl, Nat.le_of_ble_eq_true rfl⟩) (he_preV (wc := ([(oX11 m0 0 ta sz_ pl at_ fa fw cs fd rfm rt_ to_ rw_ wa ct rk rb cn br sm as_ go sh_ ir oa ob th ig sp_ ki tg of_ kp sf rs), (aM g of_ 2 (he_ro 2 r9)), (aM g rs 13 (he_ro 13 r11))] ++ (he_pl g L ln M))) hK hP hD hS hA hE (he_is [2, 0, 1] [(aM g of_ 2 (he_ro 2 r9)), (aM g rs 13 (he_ro 13 r11)), (oX11 m0 0 ta sz_ pl at_ fa fw cs fd rfm rt_ to_ rw_ wa ct rk rb cn br sm as_ go sh_ ir oa ob th ig sp_ ki tg of_ kp sf rs)] (he_pl g L ln M)) (he_ixP rfl) (he_ndP rfl rfl) 2 rfl rfl) rfl rfl hl.1 rfl (lv_room (Nat.le_of_ble_eq_true rfl)) dX11_serves_32 ⟨(Nat.le_of_ble_eq_true rfl), (Nat.le_of_ble_eq_true rfl)⟩) hP hD hS hA (he_is [2, 0, 1] [(aM g of_ 2 (he_ro 2 r9)), (aM g rs 13 (he_ro 13 r11)), (oX11 m0 0 ta sz_ pl at_ fa fw cs fd rfm rt_ to_ rw_ wa ct rk rb cn br sm as_ go sh_ ir oa ob th ig sp_ ki tg of_ kp sf rs)] (he_pl g L ln M)) [] (he_ixP rfl) rfl rfl (he_disP (by decide) rfl) (fun r_9 u_10 H locs h_11 hP hD hS => ?_)
      obtain ⟨Mu_12, rfl⟩ : ∃ z, z = u_10 := ⟨_, rfl⟩
      try dsimp only at h_11
      obtain ⟨rfl, hf_13, hf_14⟩ := h_11
      have hP : va_P g.1 vwCl ([(oX11 m0 0 ta sz_ pl at_ fa fw cs fd rfm rt_ to_ rw_ wa ct rk rb cn br sm as_ go sh_ ir oa ob th ig sp_ ki tg of_ kp sf rs), (aM g of_ 2 (he_ro 2 r9)), (aM g rs 13 (he_ro 13 r11))] ++ he_pl g L ln Mu_12) H := hP
      have hD : va_D A ([(oX11 m0 0 ta sz_ pl at_ fa fw cs fd rfm rt_ to_ rw_ wa ct rk rb cn br sm as_ go sh_ ir oa ob th ig sp_ ki tg of_ kp sf rs), (aM g of_ 2 (he_ro 2 r9)), (aM g rs 13 (he_ro 13 r11))] ++ he_pl g L ln Mu_12) := hD
      have hrs := hf_13
      have HX := hf_14
      refine lv_istore_n (lv' := [(2, .int (nI (bestN (rsN o 12) 0 3))), (0, .ref m0), (1, .int (nI n))]) hx hb dX11_serves_35 rfl hl (by decide) rfl (fun ls hl => ?_)
      refine lv_iconst (v := 0) hx hb dX11_serves_36 (by decide) ?_
      refine lv_istore_n (lv' := [(3, .int 0), (2, .int (nI (bestN (rsN o 12) 0 3))), (0, .ref m0), (1, .int (nI n))]) hx hb dX11_serves_37 rfl hl (by decide) rfl (fun ls hl => ?_)
      refine lv_iconst (v := 0) hx hb dX11_serves_38 (by decide) ?_
      refine lv_istore (lv' := [(4, .int 0), (3, .int 0), (2, .int (nI (bestN (rsN o 12) 0 3))), (0, .ref m0), (1, .int (nI n))]) hx hb dX11_serves_39 hl (by decide) rfl (fun ls hl => ?_)
      refine lv_iconst (v := 0) hx hb dX11_serves_41 (by decide) ?_
      refine lv_istore (lv' := [(5, .int 0), (4, .int 0), (3, .int 0), (2, .int (nI (bestN (rsN o 12) 0 3))), (0, .ref m0), (1, .int (nI n))]) hx hb dX11_serves_42 hl (by decide) rfl (fun ls hl => ?_)
      have loop44 : ∀ (n9 : Nat) (mi : Nat) (la : Nat) (wh : Nat), n + 1 - mi < n9 → (mi ≤ n + 1) → (la < 3) → ∀ (H : Heap) (locs : List Loc) (ls : Array Slot), va_P g.1 vwCl ([(oX11 m0 0 ta sz_ pl at_ fa fw cs fd rfm rt_ to_ rw_ wa ct rk rb cn br sm as_ go sh_ ir oa ob th ig sp_ ki tg of_ kp sf rs), (aM g of_ 2 (he_ro 2 r9)), (aM g rs 13 (he_ro 13 r11))] ++ he_pl g L ln Mu_12) H → va_D A ([(oX11 m0 0 ta sz_ pl at_ fa fw cs fd rfm rt_ to_ rw_ wa ct rk rb cn br sm as_ go sh_ ir oa ob th ig sp_ ki tg of_ kp sf rs), (aM g of_ 2 (he_ro 2 r9)), (aM g rs 13 (he_ro 13 r11))] ++ he_pl g L ln Mu_12) → va_S A s.heap H locs → lv_has ls 6 [(0, .ref m0), (1, .int (nI n)), (2, .int (nI (bestN (rsN o (12 - mi)) la 3))), (3, .int (nI la)), (4, .int (nI wh)), (5, .int (nI mi))] → W p l e (he_room 3 67 0 0) s m args below meth c H locs 0 0 Q (F0 m 44 ls []) := by
        intro n9
        induction n9 with
        | zero => intro mi la wh hm9; exact absurd hm9 (Nat.not_lt_zero _)
        | succ n9 ih44 =>
          intro mi la wh hm9 hm hla H locs ls hP hD hS hl
          refine lv_iload hx hb dX11_serves_44 (lv_at hl 5 rfl) ?_
          refine lv_iload_n hx hb dX11_serves_46 rfl (lv_at hl 1 rfl) ?_
          refine lv_icmp_gt (tgt := 115) hx hb dX11_serves_47 (by decide) (fun c_15 => ?_) (fun c_15 => ?_)
          · have k_16 : n < mi := (he_clt (a := n) (b := mi) rfl rfl (by omega) (by omega)).mp c_15
            refine lv_iload hx hb dX11_serves_115 (lv_at hl 4 rfl) ?_
            exact he_ri hQ hx hb hr hlk hP hD hS dX11_serves_117 (Nat.le_of_ble_eq_true rfl) (Nat.le_of_ble_eq_true rfl) (Mu_12) (rfl) (HX)
          · have k_17 : ¬ (n < mi) := fun h9 => c_15 ((he_clt (a := n) (b := mi) rfl rfl (by omega) (by omega)).mpr h9)
            obtain ⟨ex, hex1, hex2, hex3⟩ := best_ex (rsN o (12 - mi)) la hla
            refine lv_iconst (v := 0) hx hb dX11_serves_50 (by decide) ?_
            refine lv_istore (lv' := [(4, .int 0), (0, .ref m0), (1, .int (nI n)), (2, .int (nI (bestN (rsN o (12 - mi)) la 3))), (3, .int (nI la)), (5, .int (nI mi))]) hx hb dX11_serves_51 hl (by decide) rfl (fun ls hl => ?_)
            have loop53 : ∀ (n9 : Nat) (wo : Nat), 3 - wo < n9 → (wo ≤ ex) → ∀ (H : Heap) (locs : List Loc) (ls : Array Slot), va_P g.1 vwCl ([(oX11 m0 0 ta sz_ pl at_ fa fw cs fd rfm rt_ to_ rw_ wa ct rk rb cn br sm as_ go sh_ ir oa ob th ig sp_ ki tg of_ kp sf rs), (aM g of_ 2 (he_ro 2 r9)), (aM g rs 13 (he_ro 13 r11))] ++ he_pl g L ln Mu_12) H → va_D A ([(oX11 m0 0 ta sz_ pl at_ fa fw cs fd rfm rt_ to_ rw_ wa ct rk rb cn br sm as_ go sh_ ir oa ob th ig sp_ ki tg of_ kp sf rs), (aM g of_ 2 (he_ro 2 r9)), (aM g rs 13 (he_ro 13 r11))] ++ he_pl g L ln Mu_12) → va_S A s.heap H locs → lv_has ls 6 [(0, .ref m0), (1, .int (nI n)), (2, .int (nI (bestN (rsN o (12 - mi)) la 3))), (3, .int (nI la)), (4, .int (nI wo)), (5, .int (nI mi))] → W p l e (he_room 3 67 0 0) s m args below meth c H locs 0 0 Q (F0 m 53 ls []) := by
              intro n9
              induction n9 with
              | zero => intro wo hm9; exact absurd hm9 (Nat.not_lt_zero _)
              | succ n9 ih53 =>
                intro wo hm9 hwo H locs ls hP hD hS hl
                refine lv_iload_n hx hb dX11_serves_53 rfl (lv_at hl 3 rfl) ?_
                refine lv_iload hx hb dX11_serves_54 (lv_at hl 4 rfl) ?_
                refine he_ci (wc := []) (wr := ([(oX11 m0 0 ta sz_ pl at_ fa fw cs fd rfm rt_ to_ rw_ wa ct rk rb cn br sm as_ go sh_ ir oa ob th ig sp_ ki tg of_ kp sf rs), (aM g of_ 2 (he_ro 2 r9)), (aM g rs 13 (he_ro 13 r11))] ++ (he_pl g L ln Mu_12))) (va_runS (As := [.int (nI la), .int (nI wo)]) (rest := []) ⟨hx, hb, hml, hown, hts⟩ (c_X11_mayServe l g la wo (by first | assumption | decide | omega) (by first | assumption | decide | omega) H.size) (va_cwS 2 hts gX11_serves_X11_mayServe rfl rfl rfl (by decide +kernel) ⟨Nat.le_of_ble_eq_true rfl, Nat.le_of_ble_eq_true rfl⟩) (he_preS (wc := []) hK hP hD hS hA hE [] rfl rfl) rfl rfl hl.1 rfl (lv_room (Nat.le_of_ble_eq_true rfl)) dX11_serves_56 ⟨(Nat.le_of_ble_eq_true rfl), (Nat.le_of_ble_eq_true rfl)⟩) hP hD hS hA [] (he_is [0, 1, 2] [(oX11 m0 0 ta sz_ pl at_ fa fw cs fd rfm rt_ to_ rw_ wa ct rk rb cn br sm as_ go sh_ ir oa ob th ig sp_ ki tg of_ kp sf rs), (aM g of_ 2 (he_ro 2 r9)), (aM g rs 13 (he_ro 13 r11))] (he_pl g L ln Mu_12)) rfl (he_ixP rfl) (he_ndP rfl rfl) (he_disN (by decide) rfl) (fun r_18 u_19 H locs h_20 hP hD hS => ?_)
                have hP := va_P.swap hP
                have hD := va_D.swap hD
                subst h_20
                have hP : va_P g.1 vwCl ([(oX11 m0 0 ta sz_ pl at_ fa fw cs fd rfm rt_ to_ rw_ wa ct rk rb cn br sm as_ go sh_ ir oa ob th ig sp_ ki tg of_ kp sf rs), (aM g of_ 2 (he_ro 2 r9)), (aM g rs 13 (he_ro 13 r11))] ++ he_pl g L ln Mu_12) H := hP
                have hD : va_D A ([(oX11 m0 0 ta sz_ pl at_ fa fw cs fd rfm rt_ to_ rw_ wa ct rk rb cn br sm as_ go sh_ ir oa ob th ig sp_ ki tg of_ kp sf rs), (aM g of_ 2 (he_ro 2 r9)), (aM g rs 13 (he_ro 13 r11))] ++ he_pl g L ln Mu_12) := hD
                refine lv_if_eq (tgt := 76) hx hb dX11_serves_59 (by decide) (fun c_21 => ?_) (fun c_21 => ?_)
                · have hne : wo ≠ ex := fun h9 => hex2 (by rw [← h9]; exact c_21)
                  refine lv_iinc (v := nI (wo + 1)) (lv' := [(4, .int (nI (wo + 1))), (0, .ref m0), (1, .int (nI n)), (2, .int (nI (bestN (rsN o (12 - mi)) la 3))), (3, .int (nI la)), (5, .int (nI mi))]) hx hb dX11_serves_76 hl (k := 4) rfl (nI_1 wo) (by decide) rfl (fun ls hl => ?_)
                  refine lv_goto (tgt := 53) hx hb dX11_serves_79 (by decide) ?_
                  exact ih53 (wo + 1) (by omega) (by omega) _ _ _ hP hD hS (lv_sub hl [1, 2, 3, 4, 0, 5] rfl)
                · refine lv_aload_n hx hb dX11_serves_62 rfl (lv_at hl 0 rfl) ?_
                  refine va_get (v := .ref rs) (T := TX11) (N := 35) hx hb hts inX11 hown hK hP 0 rfl rfl 34 (by decide) f76 (fun _ h9 => h9) rfl dX11_serves_63 ?_
                  refine lv_iload hx hb dX11_serves_66 (lv_at hl 5 rfl) ?_
                  refine he_aldm hx hb hK hP 2 rfl (mi) rfl (by first | assumption | decide | omega) (by decide) dX11_serves_68 ?_
                  refine lv_iload hx hb dX11_serves_69 (lv_at hl 4 rfl) ?_
                  refine he_pald hx hb hK hP (F_r11 mi (by first | assumption | decide | omega)).1 (wo) rfl (by rw [(F_r11 mi (by first | assumption | decide | omega)).2.1]; exact (by first | assumption | decide | omega)) (by rw [(F_r11 mi (by first | assumption | decide | omega)).2.1]; decide) (nI (rsN o (12 - mi) wo)) (rs_m hrs (by omega) (by omega)) dX11_serves_71 ?_
                  refine lv_iload_n hx hb dX11_serves_72 rfl (lv_at hl 2 rfl) ?_
                  refine lv_icmp_eq (tgt := 82) hx hb dX11_serves_73 (by decide) (fun c_22 => ?_) (fun c_22 => ?_)
                  · refine lv_iload_n hx hb dX11_serves_82 rfl (lv_at hl 2 rfl) ?_
                    refine lv_iload hx hb dX11_serves_83 (lv_at hl 4 rfl) ?_
                    refine lv_if_ne (tgt := 92) hx hb dX11_serves_85 (by decide) (fun c_23 => ?_) (fun c_23 => ?_)
                    · have k_24 : ¬ (wo = 0) := fun h9 => c_23 ((he_ceq (a := wo) (b := 0) rfl (by decide) (by omega) (by omega)).mpr h9)
                      refine lv_aload_n hx hb dX11_serves_92 rfl (lv_at hl 0 rfl) ?_
                      refine va_get (v := .ref of_) (T := TX11) (N := 35) hx hb hts inX11 hown hK hP 0 rfl rfl 31 (by decide) f70 (fun _ h9 => h9) rfl dX11_serves_93 ?_
                      refine lv_iload hx hb dX11_serves_96 (lv_at hl 4 rfl) ?_
                      refine lv_iconst (v := 1) hx hb dX11_serves_98 (by decide) ?_
                      refine lv_isub hx hb dX11_serves_99 ?_
                      refine he_top (nI (wo - 1)) (pk_sub (b := 1) (by omega)) ?_
                      refine he_aldm hx hb hK hP 1 rfl (wo - 1) rfl (by first | assumption | decide | omega) (by decide) dX11_serves_100 ?_
                      refine lv_iload hx hb dX11_serves_101 (lv_at hl 5 rfl) ?_
                      refine he_pald hx hb hK hP (F_r9 (wo - 1) (by first | assumption | decide | omega)).1 (mi) rfl (by rw [(F_r9 (wo - 1) (by first | assumption | decide | omega)).2.1]; exact (by first | assumption | decide | omega)) (by rw [(F_r9 (wo - 1) (by first | assumption | decide | omega)).2.1]; decide) (nI (o (wo - 1) mi)) (by rw [HX _ (fun i hi => D_r9_r11 (wo - 1) i (by omega) hi)]; exact ho (wo - 1) (by omega) mi (by omega)) dX11_serves_103 ?_
                      refine lv_isub hx hb dX11_serves_104 ?_
                      refine he_top (nI (bestN (rsN o (12 - (mi + 1))) wo 3)) (by have h8 := sv_next (o := o) (w := wo) (m := mi) (by omega); rw [if_neg (by omega)] at h8; rw [← c_22]; exact h8) ?_
                      refine lv_istore_n (lv' := [(2, .int (nI (bestN (rsN o (12 - (mi + 1))) wo 3))), (0, .ref m0), (1, .int (nI n)), (3, .int (nI la)), (4, .int (nI wo)), (5, .int (nI mi))]) hx hb dX11_serves_105 rfl hl (by decide) rfl (fun ls hl => ?_)
                      refine lv_iload hx hb dX11_serves_106 (lv_at hl 4 rfl) ?_
                      refine lv_istore_n (lv' := [(3, .int (nI wo)), (2, .int (nI (bestN (rsN o (12 - (mi + 1))) wo 3))), (0, .ref m0), (1, .int (nI n)), (4, .int (nI wo)), (5, .int (nI mi))]) hx hb dX11_serves_108 rfl hl (by decide) rfl (fun ls hl => ?_)
                      refine lv_iinc (v := nI (mi + 1)) (lv' := [(5, .int (nI (mi + 1))), (3, .int (nI wo)), (2, .int (nI (bestN (rsN o (12 - (mi + 1))) wo 3))), (0, .ref m0), (1, .int (nI n)), (4, .int (nI wo))]) hx hb dX11_serves_109 hl (k := 5) rfl (nI_1 mi) (by decide) rfl (fun ls hl => ?_)
                      refine lv_goto (tgt := 44) hx hb dX11_serves_112 (by decide) ?_
                      exact ih44 (mi + 1) wo wo (by omega) (by omega) (by omega) _ _ _ hP hD hS (lv_sub hl [3, 4, 2, 1, 5, 0] rfl)
                    · have k_25 : wo = 0 := (he_ceq (a := wo) (b := 0) rfl (by decide) (by omega) (by omega)).mp c_23
                      refine lv_iconst (v := 0) hx hb dX11_serves_88 (by decide) ?_
                      refine lv_goto (tgt := 104) hx hb dX11_serves_89 (by decide) ?_
                      refine lv_isub hx hb dX11_serves_104 ?_
                      refine he_top (nI (bestN (rsN o (12 - (mi + 1))) wo 3)) (by have h8 := sv_next (o := o) (w := wo) (m := mi) (by omega); rw [if_pos (by omega)] at h8; rw [← c_22]; exact h8) ?_
                      refine lv_istore_n (lv' := [(2, .int (nI (bestN (rsN o (12 - (mi + 1))) wo 3))), (0, .ref m0), (1, .int (nI n)), (3, .int (nI la)), (4, .int (nI wo)), (5, .int (nI mi))]) hx hb dX11_serves_105 rfl hl (by decide) rfl (fun ls hl => ?_)
                      refine lv_iload hx hb dX11_serves_106 (lv_at hl 4 rfl) ?_
                      refine lv_istore_n (lv' := [(3, .int (nI wo)), (2, .int (nI (bestN (rsN o (12 - (mi + 1))) wo 3))), (0, .ref m0), (1, .int (nI n)), (4, .int (nI wo)), (5, .int (nI mi))]) hx hb dX11_serves_108 rfl hl (by decide) rfl (fun ls hl => ?_)
                      refine lv_iinc (v := nI (mi + 1)) (lv' := [(5, .int (nI (mi + 1))), (3, .int (nI wo)), (2, .int (nI (bestN (rsN o (12 - (mi + 1))) wo 3))), (0, .ref m0), (1, .int (nI n)), (4, .int (nI wo))]) hx hb dX11_serves_109 hl (k := 5) rfl (nI_1 mi) (by decide) rfl (fun ls hl => ?_)
                      refine lv_goto (tgt := 44) hx hb dX11_serves_112 (by decide) ?_
                      exact ih44 (mi + 1) wo wo (by omega) (by omega) (by omega) _ _ _ hP hD hS (lv_sub hl [3, 4, 2, 1, 5, 0] rfl)
                  · have hne : wo ≠ ex := fun h9 => c_22 (by rw [h9, hex3])
                    refine lv_iinc (v := nI (wo + 1)) (lv' := [(4, .int (nI (wo + 1))), (0, .ref m0), (1, .int (nI n)), (2, .int (nI (bestN (rsN o (12 - mi)) la 3))), (3, .int (nI la)), (5, .int (nI mi))]) hx hb dX11_serves_76 hl (k := 4) rfl (nI_1 wo) (by decide) rfl (fun ls hl => ?_)
                    refine lv_goto (tgt := 53) hx hb dX11_serves_79 (by decide) ?_
                    exact ih53 (wo + 1) (by omega) (by omega) _ _ _ hP hD hS (lv_sub hl [1, 2, 3, 4, 0, 5] rfl)
            exact loop53 ((3 - 0) + 1) 0 (Nat.lt_succ_self _) (Nat.zero_le _) _ _ _ hP hD hS (lv_sub hl [1, 2, 3, 4, 0, 5] rfl)
      exact loop44 ((n + 1 - 0) + 1) 0 0 0 (Nat.lt_succ_self _) (Nat.zero_le _) (by decide) _ _ _ hP hD hS (lv_sub hl [4, 5, 3, 2, 1, 0] rfl)
    · exact absurd (by decide) c_8
  · exact absurd c_4 (by decide)
