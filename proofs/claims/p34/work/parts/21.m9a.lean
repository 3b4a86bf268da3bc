section
/-- the most of f over those that may follow w, of the first v -/
def bestN (f : Nat → Nat) (w : Nat) : Nat → Nat
  | 0 => 0
  | v + 1 => if w = 0 ∨ v = 0 ∨ w = v then (if bestN f w v < f v then f v else bestN f w v) else bestN f w v
/-- the most from a month on, k months ahead of the end, w being served in it -/
def rsN (o : Nat → Nat → Nat) : Nat → Nat → Nat
  | 0, _ => 0
  | k + 1, w => bestN (rsN o k) w 3 + (if w = 0 then 0 else o (w - 1) (11 - k))
theorem bestN_le {f : Nat → Nat} {w B : Nat} (h : ∀ v, v < 3 → f v ≤ B) : ∀ v, v ≤ 3 → bestN f w v ≤ B
  | 0, _ => Nat.zero_le _
  | v + 1, hv => by
    have ih := bestN_le (w := w) h v (by omega)
    have := h v (by omega)
    rw [bestN]
    split
    · split <;> omega
    · exact ih
theorem rsN_le {o : Nat → Nat → Nat} (ho : ∀ d m, o d m ≤ 999) : ∀ k w, rsN o k w ≤ 999 * k
  | 0, _ => Nat.zero_le _
  | k + 1, w => by
    have h1 := bestN_le (w := w) (fun v _ => rsN_le ho k v) 3 (Nat.le_refl 3)
    have h2 := ho (w - 1) (11 - k)
    rw [rsN]
    split <;> omega
theorem best_t {f : Nat → Nat} {w v : Nat} (hm : ¬ mfF w v = 0) (h : bestN f w v < f v) : bestN f w (v + 1) = f v := by
  rw [bestN]
  have : w = 0 ∨ v = 0 ∨ w = v := by
    apply Decidable.byContradiction
    intro h9
    apply hm
    unfold mfF
    rw [if_neg h9]
  rw [if_pos this, if_pos h]
theorem best_f {f : Nat → Nat} {w v : Nat} (h : ¬ bestN f w v < f v) : bestN f w (v + 1) = bestN f w v := by
  rw [bestN]
  by_cases hc : w = 0 ∨ v = 0 ∨ w = v
  · rw [if_pos hc, if_neg h]
  · rw [if_neg hc]
theorem best_n {f : Nat → Nat} {w v : Nat} (hm : mfF w v = 0) : bestN f w (v + 1) = bestN f w v := by
  rw [bestN]
  have : ¬ (w = 0 ∨ v = 0 ∨ w = v) := by
    intro h9
    unfold mfF at hm
    rw [if_pos h9] at hm
    exact absurd hm (by decide)
  rw [if_neg this]
/-- what is laid: the rows from i on; of row i - 1 the first j -/
def rsOk (r11 : Nat → Nat) (o : Nat → Nat → Nat) (M : Nat → Nat → Int32) (i : Nat) : Prop := ∀ m, i ≤ m → m ≤ 12 → ∀ w, w < 3 → M (r11 m) w = nI (rsN o (12 - m) w)
def oOk (r9 : Nat → Nat) (o : Nat → Nat → Nat) (M : Nat → Nat → Int32) : Prop := ∀ d, d < 2 → ∀ m, m < 12 → M (r9 d) m = nI (o d m)
theorem dn0 {i : Nat} {x : Int32} (hm : x = nI i - 1) (h : x < 0) (hi : i < 2147483648) : i = 0 := by
  cases i with
  | zero => rfl
  | succ k => rw [hm, nI_pred] at h; exact absurd h (nI_pos (by omega))
theorem rs_keep {r11 : Nat → Nat} {o : Nat → Nat → Nat} {M : Nat → Nat → Int32} {i a : Nat} {f : Nat → Int32} (hinj : ∀ a b, a < 13 → b < 13 → r11 a = r11 b → a = b) (ha : a < i) (hi : i ≤ 13) (h : rsOk r11 o M i) : rsOk r11 o (va_up M (r11 a) f) i := by
  intro m h1 h2 w hw
  unfold va_up
  rw [if_neg (fun h9 => absurd (hinj m a (by omega) (by omega) h9) (by omega))]
  exact h m h1 h2 w hw
/-- of one row the first j -/
def rwOk (r11 : Nat → Nat) (o : Nat → Nat → Nat) (M : Nat → Nat → Int32) (k j : Nat) : Prop := ∀ w, w < j → M (r11 k) w = nI (rsN o (12 - k) w)
theorem rw_s {r11 : Nat → Nat} {o : Nat → Nat → Nat} {M : Nat → Nat → Int32} {k j : Nat} {v : Int32} (hv : v = nI (rsN o (12 - k) j)) (h : rwOk r11 o M k j) : rwOk r11 o (va_up M (r11 k) (upd (M (r11 k)) j v)) k (j + 1) := by
  intro w hw
  unfold va_up
  rw [if_pos rfl]
  unfold upd
  by_cases e : w = j
  · rw [if_pos e, e]; exact hv
  · rw [if_neg e]; exact h w (by omega)
theorem rs_row {r11 : Nat → Nat} {o : Nat → Nat → Nat} {M : Nat → Nat → Int32} {k : Nat} (h : rsOk r11 o M (k + 1)) (h2 : rwOk r11 o M k 3) : rsOk r11 o M k := by
  intro m h1 h3 w hw
  by_cases e : m = k
  · subst e; exact h2 w hw
  · exact h m (by omega) h3 w hw
theorem rs_12 {r11 : Nat → Nat} {o : Nat → Nat → Nat} {M : Nat → Nat → Int32} (h : rwOk r11 o M 12 3) : rsOk r11 o M 12 := by
  intro m h1 h3 w hw
  rw [show m = 12 by omega]
  exact h w hw
theorem rs_at {r11 : Nat → Nat} {o : Nat → Nat → Nat} {M : Nat → Nat → Int32} {k v : Nat} (h : rsOk r11 o M (k + 1)) (hk : k < 12) (hv : v < 3) : M (r11 (k + 1)) v = nI (rsN o (11 - k) v) := by
  rw [h (k + 1) (Nat.le_refl _) (by omega) v hv, show 12 - (k + 1) = 11 - k by omega]
theorem rs_val {o : Nat → Nat → Nat} {k j : Nat} (hk : k < 12) : rsN o (12 - k) j = bestN (rsN o (11 - k)) j 3 + (if j = 0 then 0 else o (j - 1) k) := by
  rw [show 12 - k = (11 - k) + 1 by omega, rsN, show 11 - (11 - k) = k by omega]
theorem best_0 (f : Nat → Nat) : bestN f 0 3 = (if (if f 0 < f 1 then f 1 else f 0) < f 2 then f 2 else (if f 0 < f 1 then f 1 else f 0)) := by
  have h1 : bestN f 0 1 = f 0 := by
    rw [bestN, if_pos (Or.inl rfl)]
    show (if 0 < f 0 then f 0 else 0) = f 0
    split <;> omega
  have h2 : bestN f 0 2 = if f 0 < f 1 then f 1 else f 0 := by rw [bestN, if_pos (Or.inl rfl), h1]
  rw [bestN, if_pos (Or.inl rfl), h2]
/-- one of those that may follow has the most -/
theorem best_ex (f : Nat → Nat) (w : Nat) (hw : w < 3) : ∃ v, v < 3 ∧ ¬ mfF w v = 0 ∧ f v = bestN f w 3 := by
  have key : ∀ n, n ≤ 3 → 1 ≤ n → ∃ v, v < n ∧ ¬ mfF w v = 0 ∧ f v = bestN f w n := by
    intro n
    induction n with
    | zero => intro _ h; omega
    | succ n ih =>
      intro hn _
      rcases Nat.eq_zero_or_pos n with e | e
      · subst e
        refine ⟨0, by decide, ?_, ?_⟩
        · unfold mfF; rw [if_pos (Or.inr (Or.inl rfl))]; decide
        · rw [bestN, if_pos (Or.inr (Or.inl rfl))]
          show f 0 = if 0 < f 0 then f 0 else 0
          split <;> omega
      · obtain ⟨v, h1, h2, h3⟩ := ih (by omega) e
        rw [bestN]
        split
        · rename_i h4
          split
          · refine ⟨n, by omega, ?_, rfl⟩
            unfold mfF
            rw [if_pos h4]
            decide
          · exact ⟨v, by omega, h2, h3⟩
        · exact ⟨v, by omega, h2, h3⟩
  exact key 3 (Nat.le_refl 3) (by decide)
theorem mf_of {i j : Nat} (h : ¬ mfF i j = 0) : i = 0 ∨ j = 0 ∨ i = j := by
  apply Decidable.byContradiction
  intro h9
  apply h
  unfold mfF
  rw [if_neg h9]
theorem rs_m {r11 : Nat → Nat} {o : Nat → Nat → Nat} {M : Nat → Nat → Int32} {m v : Nat} (h : rsOk r11 o M 0) (hm : m ≤ 12) (hv : v < 3) : M (r11 m) v = nI (rsN o (12 - m) v) := h m (Nat.zero_le _) hm v hv
/-- behind the one served: the most of the months behind -/
theorem sv_next {o : Nat → Nat → Nat} {m w : Nat} (hm : m < 12) : nI (rsN o (12 - m) w) - nI (if w = 0 then 0 else o (w - 1) m) = nI (bestN (rsN o (12 - (m + 1))) w 3) := by
  rw [rs_val hm, show 12 - (m + 1) = 11 - m by omega]
  rw [pk_sub (by omega)]
  congr 1
  omega
set_option maxHeartbeats 4000000 in
set_option maxRecDepth 100000 in
theorem h_X11_laysRest (l : Launch) (g : he_G) (m0 : Nat) (fd : Nat) (rfm : Nat) (rt_ : Nat) (to_ : Nat) (rw_ : Nat) (wa : Nat) (rk : Nat) (rb : Nat) (cn : Nat) (br : Nat) (sm : Nat) (as_ : Nat) (go : Nat) (sh_ : Nat) (ki : Nat) (tg : Nat) (of_ : Nat) (kp : Nat) (rs : Nat) (ta : Int32) (sz_ : Int32) (pl : Int32) (at_ : Int32) (fa : Int32) (fw : Int32) (cs : Int32) (ct : Int32) (ir : Int32) (oa : Int32) (ob : Int32) (th : Int32) (ig : Int32) (sp_ : Int32) (sf : Int32) (tw : Int32) (L : List Nat) (ln : Nat → Nat) (M : Nat → Nat → Int32) (r9 : Nat → Nat) (r11 : Nat → Nat) (o : Nat → Nat → Nat) (F_r9 : ∀ i, i < 2 → r9 i ∈ L ∧ ln (r9 i) = 12 ∧ True) (F_r11 : ∀ i, i < 13 → r11 i ∈ L ∧ ln (r11 i) = 3 ∧ True) (D_r9_r11 : ∀ i j, i < 2 → j < 13 → r9 i ≠ r11 j) (J_r11 : ∀ a b, a < 13 → b < 13 → r11 a = r11 b → a = b) (ho : oOk r9 o M) (hob : ∀ d m, o d m ≤ 999) : he_V l yX11_laysRest wsX11_laysRest 1 21 0 0 g [.ref m0] ([(oX11 m0 tw ta sz_ pl at_ fa fw cs fd rfm rt_ to_ rw_ wa ct rk rb cn br sm as_ go sh_ ir oa ob th ig sp_ ki tg of_ kp sf rs), (aM g of_ 2 (he_ro 2 r9)), (aM g rs 13 (he_ro 13 r11))] ++ he_pl g L ln M) (fun (u : Nat → Nat → Int32) => rsOk r11 o u 0 ∧ mEx r11 13 M u) (fun (u : Nat → Nat → Int32) => [(oX11 m0 tw ta sz_ pl at_ fa fw cs fd rfm rt_ to_ rw_ wa ct rk rb cn br sm as_ go sh_ ir oa ob th ig sp_ ki tg of_ kp sf rs), (aM g of_ 2 (he_ro 2 r9)), (aM g rs 13 (he_ro 13 r11))] ++ he_pl g L ln u) := by
  refine he_begin (l := l) (g := g) (y := yX11_laysRest) (wl := wsX11_laysRest) (fr := 1) (lo := 21) (mc := 0) (ms := 0) (av := [.ref m0]) (ws := ([(oX11 m0 tw ta sz_ pl at_ fa fw cs fd rfm rt_ to_ rw_ wa ct rk rb cn br sm as_ go sh_ ir oa ob th ig sp_ ki tg of_ kp sf rs), (aM g of_ 2 (he_ro 2 r9)), (aM g rs 13 (he_ro 13 r11))] ++ he_pl g L ln M)) (cc := cX11_laysRest) (maxL := 5) (ret := none) (fun A => va_Qv (fun (u : Nat → Nat → Int32) => rsOk r11 o u 0 ∧ mEx r11 13 M u) (fun u t => he_post g A ((fun (u : Nat → Nat → Int32) => [(oX11 m0 tw ta sz_ pl at_ fa fw cs fd rfm rt_ to_ rw_ wa ct rk rb cn br sm as_ go sh_ ir oa ob th ig sp_ ki tg of_ kp sf rs), (aM g of_ 2 (he_ro 2 r9)), (aM g rs 13 (he_ro 13 r11))] ++ he_pl g L ln u) u) t) A) (by decide) rfl (Nat.le_of_ble_eq_true rfl) ?_
  intro p e s m args below meth c A ls H locs Q hQ hB
  obtain ⟨hx, hb, hr, hml, hown, hts, hlk, hin, hP, hK, hD, hS, hA, hE, hl⟩ := hB
  have hl : lv_has ls 5 [(0, .ref m0)] := hl
  have f76 := hts (.fieldLink RX11 76 "HiredEnemyModel" "rest" "[[I") (iwoX11_laysRest (k := 0) rfl)
  have inX11 : ∀ w ∈ wsX110, w ∈ wsX11_laysRest := innX11_laysRest_X11
  have f70 := hts (.fieldLink RX11 70 "HiredEnemyModel" "offered" "[[I") (iwoX11_laysRest (k := 1) rfl)
  refine lv_iconst (v := 0) hx hb dX11_laysRest_0 (by decide) ?_
  refine lv_istore_n (lv' := [(1, .int 0), (0, .ref m0)]) hx hb dX11_laysRest_1 rfl hl (by decide) rfl (fun ls hl => ?_)
  have loop2 : ∀ (n9 : Nat) (q : Nat) (Mj : Nat → Nat → Int32), 3 - q < n9 → (q ≤ 3) → (rwOk r11 o Mj 12 q) → (mEx r11 13 M Mj) → ∀ (H : Heap) (locs : List Loc) (ls : Array Slot), va_P g.1 vwCl ([(oX11 m0 tw ta sz_ pl at_ fa fw cs fd rfm rt_ to_ rw_ wa ct rk rb cn br sm as_ go sh_ ir oa ob th ig sp_ ki tg of_ kp sf rs), (aM g of_ 2 (he_ro 2 r9)), (aM g rs 13 (he_ro 13 r11))] ++ he_pl g L ln Mj) H → va_D A ([(oX11 m0 tw ta sz_ pl at_ fa fw cs fd rfm rt_ to_ rw_ wa ct rk rb cn br sm as_ go sh_ ir oa ob th ig sp_ ki tg of_ kp sf rs), (aM g of_ 2 (he_ro 2 r9)), (aM g rs 13 (he_ro 13 r11))] ++ he_pl g L ln Mj) → va_S A s.heap H locs → lv_has ls 5 [(0, .ref m0), (1, .int (nI q))] → W p l e (he_room 1 21 0 0) s m args below meth c H locs 0 0 Q (F0 m 2 ls []) := by
    intro n9
    induction n9 with
    | zero => intro q Mj hm9; exact absurd hm9 (Nat.not_lt_zero _)
    | succ n9 ih2 =>
      intro q Mj hm9 hq hrw hmx H locs ls hP hD hS hl
      refine lv_iload_n hx hb dX11_laysRest_2 rfl (lv_at hl 1 rfl) ?_
      refine lv_iconst (v := 3) hx hb dX11_laysRest_3 (by decide) ?_
      refine lv_icmp_ge (tgt := 23) hx hb dX11_laysRest_4 (by decide) (fun c_1 => ?_) (fun c_1 => ?_)
      · have k_2 : 3 ≤ q := (he_cle (a := 3) (b := q) (by decide) rfl (by omega) (by omega)).mp c_1
        obtain rfl : q = 3 := by omega
        refine lv_bipush (v := 11) hx hb dX11_laysRest_23 (by decide) ?_
        refine lv_istore_n (lv' := [(1, .int 11), (0, .ref m0)]) hx hb dX11_laysRest_25 rfl hl (by decide) rfl (fun ls hl => ?_)
        have loop26 : ∀ (n9 : Nat) (i : Nat) (mo : Int32) (Mj : Nat → Nat → Int32), i < n9 → (i ≤ 12) → (mo = nI i - 1) → (rsOk r11 o Mj i) → (mEx r11 13 M Mj) → ∀ (H : Heap) (locs : List Loc) (ls : Array Slot), va_P g.1 vwCl ([(oX11 m0 tw ta sz_ pl at_ fa fw cs fd rfm rt_ to_ rw_ wa ct rk rb cn br sm as_ go sh_ ir oa ob th ig sp_ ki tg of_ kp sf rs), (aM g of_ 2 (he_ro 2 r9)), (aM g rs 13 (he_ro 13 r11))] ++ he_pl g L ln Mj) H → va_D A ([(oX11 m0 tw ta sz_ pl at_ fa fw cs fd rfm rt_ to_ rw_ wa ct rk rb cn br sm as_ go sh_ ir oa ob th ig sp_ ki tg of_ kp sf rs), (aM g of_ 2 (he_ro 2 r9)), (aM g rs 13 (he_ro 13 r11))] ++ he_pl g L ln Mj) → va_S A s.heap H locs → lv_has ls 5 [(0, .ref m0), (1, .int mo)] → W p l e (he_room 1 21 0 0) s m args below meth c H locs 0 0 Q (F0 m 26 ls []) := by
          intro n9
          induction n9 with
          | zero => intro i mo Mj hm9; exact absurd hm9 (Nat.not_lt_zero _)
          | succ n9 ih26 =>
            intro i mo Mj hm9 hi hmo hrs hmx H locs ls hP hD hS hl
            refine lv_iload_n hx hb dX11_laysRest_26 rfl (lv_at hl 1 rfl) ?_
            refine lv_if_lt (tgt := 134) hx hb dX11_laysRest_27 (by decide) (fun c_3 => ?_) (fun c_3 => ?_)
            · exact he_rv hQ hx hb hr hlk hP hD hS dX11_laysRest_134 (Nat.le_of_ble_eq_true rfl) (Nat.le_of_ble_eq_true rfl) (Mj) (rfl) (⟨by have e9 := dn0 hmo c_3 (by omega); subst e9; exact hrs, hmx⟩)
            · obtain ⟨k, rfl, rfl⟩ := he_down hmo c_3
              refine lv_iconst (v := 0) hx hb dX11_laysRest_30 (by decide) ?_
              refine lv_istore_n (lv' := [(2, .int 0), (0, .ref m0), (1, .int (nI k))]) hx hb dX11_laysRest_31 rfl hl (by decide) rfl (fun ls hl => ?_)
              have loop32 : ∀ (n9 : Nat) (j : Nat) (Mj : Nat → Nat → Int32), 3 - j < n9 → (j ≤ 3) → (rsOk r11 o Mj (k + 1)) → (rwOk r11 o Mj k j) → (mEx r11 13 M Mj) → ∀ (H : Heap) (locs : List Loc) (ls : Array Slot), va_P g.1 vwCl ([(oX11 m0 tw ta sz_ pl at_ fa fw cs fd rfm rt_ to_ rw_ wa ct rk rb cn br sm as_ go sh_ ir oa ob th ig sp_ ki tg of_ kp sf rs), (aM g of_ 2 (he_ro 2 r9)), (aM g rs 13 (he_ro 13 r11))] ++ he_pl g L ln Mj) H → va_D A ([(oX11 m0 tw ta sz_ pl at_ fa fw cs fd rfm rt_ to_ rw_ wa ct rk rb cn br sm as_ go sh_ ir oa ob th ig sp_ ki tg of_ kp sf rs), (aM g of_ 2 (he_ro 2 r9)), (aM g rs 13 (he_ro 13 r11))] ++ he_pl g L ln Mj) → va_S A s.heap H locs → lv_has ls 5 [(0, .ref m0), (1, .int (nI k)), (2, .int (nI j))] → W p l e (he_room 1 21 0 0) s m args below meth c H locs 0 0 Q (F0 m 32 ls []) := by
                intro n9
                induction n9 with
                | zero => intro j Mj hm9; exact absurd hm9 (Nat.not_lt_zero _)
                | succ n9 ih32 =>
                  intro j Mj hm9 hj hrs hrw2 hmx H locs ls hP hD hS hl
                  refine lv_iload_n hx hb dX11_laysRest_32 rfl (lv_at hl 2 rfl) ?_
                  refine lv_iconst (v := 3) hx hb dX11_laysRest_33 (by decide) ?_
                  refine lv_icmp_ge (tgt := 128) hx hb dX11_laysRest_34 (by decide) (fun c_4 => ?_) (fun c_4 => ?_)
                  · have k_5 : 3 ≤ j := (he_cle (a := 3) (b := j) (by decide) rfl (by omega) (by omega)).mp c_4
                    obtain rfl : j = 3 := by omega
                    refine lv_iinc (v := nI k + (-1)) (lv' := [(1, .int (nI k + (-1))), (0, .ref m0), (2, .int 3)]) hx hb dX11_laysRest_128 hl (k := 1) rfl rfl (by decide) rfl (fun ls hl => ?_)
                    refine lv_goto (tgt := 26) hx hb dX11_laysRest_131 (by decide) ?_
                    exact ih26 k (nI k + (-1)) Mj (by omega) (by omega) (he_dec k) (rs_row hrs hrw2) hmx _ _ _ hP hD hS (lv_sub hl [1, 0] rfl)
                  · have k_6 : ¬ (3 ≤ j) := fun h9 => c_4 ((he_cle (a := 3) (b := j) (by decide) rfl (by omega) (by omega)).mpr h9)
                    refine lv_iconst (v := 0) hx hb dX11_laysRest_37 (by decide) ?_
                    refine lv_istore_n (lv' := [(3, .int 0), (0, .ref m0), (1, .int (nI k)), (2, .int (nI j))]) hx hb dX11_laysRest_38 rfl hl (by decide) rfl (fun ls hl => ?_)
                    refine lv_iconst (v := 0) hx hb dX11_laysRest_39 (by decide) ?_
                    refine lv_istore (lv' := [(4, .int 0), (3, .int 0), (0, .ref m0), (1, .int (nI k)), (2, .int (nI j))]) hx hb dX11_laysRest_40 hl (by decide) rfl (fun ls hl => ?_)
                    have loop42 : ∀ (n9 : Nat) (v : Nat) (bs : Int32), 3 - v < n9 → (v ≤ 3) → (bs = nI (bestN (rsN o (11 - k)) j v)) → ∀ (H : Heap) (locs : List Loc) (ls : Array Slot), va_P g.1 vwCl ([(oX11 m0 tw ta sz_ pl at_ fa fw cs fd rfm rt_ to_ rw_ wa ct rk rb cn br sm as_ go sh_ ir oa ob th ig sp_ ki tg of_ kp sf rs), (aM g of_ 2 (he_ro 2 r9)), (aM g rs 13 (he_ro 13 r11))] ++ he_pl g L ln Mj) H → va_D A ([(oX11 m0 tw ta sz_ pl at_ fa fw cs fd rfm rt_ to_ rw_ wa ct rk rb cn br sm as_ go sh_ ir oa ob th ig sp_ ki tg of_ kp sf rs), (aM g of_ 2 (he_ro 2 r9)), (aM g rs 13 (he_ro 13 r11))] ++ he_pl g L ln Mj) → va_S A s.heap H locs → lv_has ls 5 [(0, .ref m0), (1, .int (nI k)), (2, .int (nI j)), (3, .int bs), (4, .int (nI v))] → W p l e (he_room 1 21 0 0) s m args below meth c H locs 0 0 Q (F0 m 42 ls []) := by
                      intro n9
                      induction n9 with
                      | zero => intro v bs hm9; exact absurd hm9 (Nat.not_lt_zero _)
                      | succ n9 ih42 =>
                        intro v bs hm9 hv hbs H locs ls hP hD hS hl
                        refine lv_iload hx hb dX11_laysRest_42 (lv_at hl 4 rfl) ?_
                        refine lv_iconst (v := 3) hx hb dX11_laysRest_44 (by decide) ?_
                        refine lv_icmp_ge (tgt := 94) hx hb dX11_laysRest_45 (by decide) (fun c_7 => ?_) (fun c_7 => ?_)
                        · have k_8 : 3 ≤ v := (he_cle (a := 3) (b := v) (by decide) rfl (by omega) (by omega)).mp c_7
                          obtain rfl : v = 3 := by omega
                          refine lv_aload_n hx hb dX11_laysRest_94 rfl (lv_at hl 0 rfl) ?_
                          refine va_get (v := .ref rs) (T := TX11) (N := 35) hx hb hts inX11 hown hK hP 0 rfl rfl 34 (by decide) f76 (fun _ h9 => h9) rfl dX11_laysRest_95 ?_
                          refine lv_iload_n hx hb dX11_laysRest_98 rfl (lv_at hl 1 rfl) ?_
                          refine he_aldm hx hb hK hP 2 rfl (k) rfl (by first | assumption | decide | omega) (by decide) dX11_laysRest_99 ?_
                          refine lv_iload_n hx hb dX11_laysRest_100 rfl (lv_at hl 2 rfl) ?_
                          refine lv_iload_n hx hb dX11_laysRest_101 rfl (lv_at hl 3 rfl) ?_
                          refine lv_iload_n hx hb dX11_laysRest_102 rfl (lv_at hl 2 rfl) ?_
                          refine lv_if_ne (tgt := 110) hx hb dX11_laysRest_103 (by decide) (fun c_9 => ?_) (fun c_9 => ?_)
                          · have k_10 : ¬ (j = 0) := fun h9 => c_9 ((he_ceq (a := j) (b := 0) rfl (by decide) (by omega) (by omega)).mpr h9)
                            refine lv_aload_n hx hb dX11_laysRest_110 rfl (lv_at hl 0 rfl) ?_
                            refine va_get (v := .ref of_) (T := TX11) (N := 35) hx hb hts inX11 hown hK hP 0 rfl rfl 31 (by decide) f70 (fun _ h9 => h9) rfl dX11_laysRest_111 ?_
                            refine lv_iload_n hx hb dX11_laysRest_114 rfl (lv_at hl 2 rfl) ?_
                            refine lv_iconst (v := 1) hx hb dX11_laysRest_115 (by decide) ?_
                            refine lv_isub hx hb dX11_laysRest_116 ?_
                            refine he_top (nI (j - 1)) (pk_sub (b := 1) (by omega)) ?_
                            refine he_aldm hx hb hK hP 1 rfl (j - 1) rfl (by first | assumption | decide | omega) (by decide) dX11_laysRest_117 ?_
                            refine lv_iload_n hx hb dX11_laysRest_118 rfl (lv_at hl 1 rfl) ?_
                            refine he_pald hx hb hK hP (F_r9 (j - 1) (by first | assumption | decide | omega)).1 (k) rfl (by rw [(F_r9 (j - 1) (by first | assumption | decide | omega)).2.1]; exact (by first | assumption | decide | omega)) (by rw [(F_r9 (j - 1) (by first | assumption | decide | omega)).2.1]; decide) (nI (o (j - 1) k)) (by rw [hmx _ (fun i hi => D_r9_r11 (j - 1) i (by omega) hi)]; exact ho (j - 1) (by omega) k (by omega)) dX11_laysRest_119 ?_
                            refine lv_iadd hx hb dX11_laysRest_120 ?_
                            refine he_past hx hb hK hP hD hS (F_r11 k (by first | assumption | decide | omega)).1 (j) rfl (by rw [(F_r11 k (by first | assumption | decide | omega)).2.1]; exact (by first | assumption | decide | omega)) (by rw [(F_r11 k (by first | assumption | decide | omega)).2.1]; decide) dX11_laysRest_121 (fun H locs hP hD hS => ?_)
                            have hP : va_P g.1 vwCl ([(oX11 m0 tw ta sz_ pl at_ fa fw cs fd rfm rt_ to_ rw_ wa ct rk rb cn br sm as_ go sh_ ir oa ob th ig sp_ ki tg of_ kp sf rs), (aM g of_ 2 (he_ro 2 r9)), (aM g rs 13 (he_ro 13 r11))] ++ he_pl g L ln (va_up Mj (r11 k) (upd (Mj (r11 k)) j (bs + (nI (o (j - 1) k)))))) H := hP
                            have hD : va_D A ([(oX11 m0 tw ta sz_ pl at_ fa fw cs fd rfm rt_ to_ rw_ wa ct rk rb cn br sm as_ go sh_ ir oa ob th ig sp_ ki tg of_ kp sf rs), (aM g of_ 2 (he_ro 2 r9)), (aM g rs 13 (he_ro 13 r11))] ++ he_pl g L ln (va_up Mj (r11 k) (upd (Mj (r11 k)) j (bs + (nI (o (j - 1) k)))))) := hD
                            refine lv_iinc (v := nI (j + 1)) (lv' := [(2, .int (nI (j + 1))), (0, .ref m0), (1, .int (nI k)), (3, .int bs), (4, .int 3)]) hx hb dX11_laysRest_122 hl (k := 2) rfl (nI_1 j) (by decide) rfl (fun ls hl => ?_)
                            refine lv_goto (tgt := 32) hx hb dX11_laysRest_125 (by decide) ?_
                            exact ih32 (j + 1) (va_up Mj (r11 k) (upd (Mj (r11 k)) j (bs + (nI (o (j - 1) k))))) (by omega) (by omega) (rs_keep J_r11 (by omega) (by omega) hrs) (rw_s (by rw [rs_val (by omega)]; first | (rw [if_pos (show j = 0 by omega), hbs]; exact nI_add _ 0) | (rw [if_neg (show ¬ j = 0 by omega), hbs]; exact nI_add _ _)) hrw2) (mEx_up hmx (by omega) _) _ _ _ hP hD hS (lv_sub hl [1, 2, 0] rfl)
                          · have k_11 : j = 0 := (he_ceq (a := j) (b := 0) rfl (by decide) (by omega) (by omega)).mp c_9
                            refine lv_iconst (v := 0) hx hb dX11_laysRest_106 (by decide) ?_
                            refine lv_goto (tgt := 120) hx hb dX11_laysRest_107 (by decide) ?_
                            refine lv_iadd hx hb dX11_laysRest_120 ?_
                            refine he_past hx hb hK hP hD hS (F_r11 k (by first | assumption | decide | omega)).1 (j) rfl (by rw [(F_r11 k (by first | assumption | decide | omega)).2.1]; exact (by first | assumption | decide | omega)) (by rw [(F_r11 k (by first | assumption | decide | omega)).2.1]; decide) dX11_laysRest_121 (fun H locs hP hD hS => ?_)
                            have hP : va_P g.1 vwCl ([(oX11 m0 tw ta sz_ pl at_ fa fw cs fd rfm rt_ to_ rw_ wa ct rk rb cn br sm as_ go sh_ ir oa ob th ig sp_ ki tg of_ kp sf rs), (aM g of_ 2 (he_ro 2 r9)), (aM g rs 13 (he_ro 13 r11))] ++ he_pl g L ln (va_up Mj (r11 k) (upd (Mj (r11 k)) j (bs + 0)))) H := hP
                            have hD : va_D A ([(oX11 m0 tw ta sz_ pl at_ fa fw cs fd rfm rt_ to_ rw_ wa ct rk rb cn br sm as_ go sh_ ir oa ob th ig sp_ ki tg of_ kp sf rs), (aM g of_ 2 (he_ro 2 r9)), (aM g rs 13 (he_ro 13 r11))] ++ he_pl g L ln (va_up Mj (r11 k) (upd (Mj (r11 k)) j (bs + 0)))) := hD
                            refine lv_iinc (v := nI (j + 1)) (lv' := [(2, .int (nI (j + 1))), (0, .ref m0), (1, .int (nI k)), (3, .int bs), (4, .int 3)]) hx hb dX11_laysRest_122 hl (k := 2) rfl (nI_1 j) (by decide) rfl (fun ls hl => ?_)
                            refine lv_goto (tgt := 32) hx hb dX11_laysRest_125 (by decide) ?_
                            exact ih32 (j + 1) (va_up Mj (r11 k) (upd (Mj (r11 k)) j (bs + 0))) (by omega) (by omega) (rs_keep J_r11 (by omega) (by omega) hrs) (rw_s (by rw [rs_val (by omega)]; first | (rw [if_pos (show j = 0 by omega), hbs]; exact nI_add _ 0) | (rw [if_neg (show ¬ j = 0 by omega), hbs]; exact nI_add _ _)) hrw2) (mEx_up hmx (by omega) _) _ _ _ hP hD hS (lv_sub hl [1, 2, 0] rfl)
                        · have k_12 : ¬ (3 ≤ v) := fun h9 => c_7 ((he_cle (a := 3) (b := v) (by decide) rfl (by omega) (by omega)).mpr h9)
                          refine lv_iload_n hx hb dX11_laysRest_48 rfl (lv_at hl 2 rfl) ?_
                          refine lv_iload hx hb dX11_laysRest_49 (lv_at hl 4 rfl) ?_
                          refine he_ci (wc := []) (wr := ([(oX11 m0 tw ta sz_ pl at_ fa fw cs fd rfm rt_ to_ rw_ wa ct rk rb cn br sm as_ go sh_ ir oa ob th ig sp_ ki tg of_ kp sf rs), (aM g of_ 2 (he_ro 2 r9)), (aM g rs 13 (he_ro 13 r11))] ++ (he_pl g L ln Mj))) (va_runS (As := [.int (nI j), .int (nI v)]) (rest := []) ⟨hx, hb, hml, hown, hts⟩ (c_X11_mayServe l g j v (by first | assumption | decide | omega) (by first | assumption | decide | omega) H.size) (va_cwS 2 hts gX11_laysRest_X11_mayServe rfl rfl rfl (by decide +kernel) ⟨Nat.le_of_ble_eq_true rfl, Nat.le_of_ble_eq_true rfl⟩) (he_preS (wc := []) hK hP hD hS hA hE [] rfl rfl) rfl rfl hl.1 rfl (lv_room (Nat.le_of_ble_eq_true rfl)) dX11_laysRest_51 ⟨(Nat.le_of_ble_eq_true rfl), (Nat.le_of_ble_eq_true rfl)⟩) hP hD hS hA [] (he_is [0, 1, 2] [(oX11 m0 tw ta sz_ pl at_ fa fw cs fd rfm rt_ to_ rw_ wa ct rk rb cn br sm as_ go sh_ ir oa ob th ig sp_ ki tg of_ kp sf rs), (aM g of_ 2 (he_ro 2 r9)), (aM g rs 13 (he_ro 13 r11))] (he_pl g L ln Mj)) rfl (he_ixP rfl) (he_ndP rfl rfl) (he_disN (by decide) rfl) (fun r_13 u_14 H locs h_15 hP hD hS => ?_)
                          have hP := va_P.swap hP
                          have hD := va_D.swap hD
                          subst h_15
                          have hP : va_P g.1 vwCl ([(oX11 m0 tw ta sz_ pl at_ fa fw cs fd rfm rt_ to_ rw_ wa ct rk rb cn br sm as_ go sh_ ir oa ob th ig sp_ ki tg of_ kp sf rs), (aM g of_ 2 (he_ro 2 r9)), (aM g rs 13 (he_ro 13 r11))] ++ he_pl g L ln Mj) H := hP
                          have hD : va_D A ([(oX11 m0 tw ta sz_ pl at_ fa fw cs fd rfm rt_ to_ rw_ wa ct rk rb cn br sm as_ go sh_ ir oa ob th ig sp_ ki tg of_ kp sf rs), (aM g of_ 2 (he_ro 2 r9)), (aM g rs 13 (he_ro 13 r11))] ++ he_pl g L ln Mj) := hD
                          refine lv_if_eq (tgt := 88) hx hb dX11_laysRest_54 (by decide) (fun c_16 => ?_) (fun c_16 => ?_)
                          · refine lv_iinc (v := nI (v + 1)) (lv' := [(4, .int (nI (v + 1))), (0, .ref m0), (1, .int (nI k)), (2, .int (nI j)), (3, .int bs)]) hx hb dX11_laysRest_88 hl (k := 4) rfl (nI_1 v) (by decide) rfl (fun ls hl => ?_)
                            refine lv_goto (tgt := 42) hx hb dX11_laysRest_91 (by decide) ?_
                            exact ih42 (v + 1) bs (by omega) (by omega) (by rw [best_n c_16]; exact hbs) _ _ _ hP hD hS (lv_sub hl [1, 2, 3, 4, 0] rfl)
                          · refine lv_aload_n hx hb dX11_laysRest_57 rfl (lv_at hl 0 rfl) ?_
                            refine va_get (v := .ref rs) (T := TX11) (N := 35) hx hb hts inX11 hown hK hP 0 rfl rfl 34 (by decide) f76 (fun _ h9 => h9) rfl dX11_laysRest_58 ?_
                            refine lv_iload_n hx hb dX11_laysRest_61 rfl (lv_at hl 1 rfl) ?_
                            refine lv_iconst (v := 1) hx hb dX11_laysRest_62 (by decide) ?_
                            refine lv_iadd hx hb dX11_laysRest_63 ?_
                            refine he_top (nI (k + 1)) (nI_add k 1) ?_
                            refine he_aldm hx hb hK hP 2 rfl (k + 1) rfl (by first | assumption | decide | omega) (by decide) dX11_laysRest_64 ?_
                            refine lv_iload hx hb dX11_laysRest_65 (lv_at hl 4 rfl) ?_
                            refine he_pald hx hb hK hP (F_r11 (k + 1) (by first | assumption | decide | omega)).1 (v) rfl (by rw [(F_r11 (k + 1) (by first | assumption | decide | omega)).2.1]; exact (by first | assumption | decide | omega)) (by rw [(F_r11 (k + 1) (by first | assumption | decide | omega)).2.1]; decide) (nI (rsN o (11 - k) v)) (rs_at hrs (by omega) (by omega)) dX11_laysRest_67 ?_
                            refine lv_iload_n hx hb dX11_laysRest_68 rfl (lv_at hl 3 rfl) ?_
                            refine lv_icmp_le (tgt := 86) hx hb dX11_laysRest_69 (by decide) (fun c_17 => ?_) (fun c_17 => ?_)
                            · refine lv_iload_n hx hb dX11_laysRest_86 rfl (lv_at hl 3 rfl) ?_
                              have hb8 := bestN_le (f := rsN o (11 - k)) (w := j) (B := 999 * (11 - k)) (fun v _ => rsN_le hob (11 - k) v)
                              refine he_top (nI (bestN (rsN o (11 - k)) j (v + 1))) (by rw [hbs, best_f (f := rsN o (11 - k)) (w := j) (v := v) (fun h9 => absurd ((nI_ltI (by have := hb8 v (by omega); omega) (by have := rsN_le hob (11 - k) v; omega)).mpr h9) (Int32.not_lt.mpr (by rw [← hbs]; exact c_17)))]) ?_
                              refine lv_istore_n (lv' := [(3, .int (nI (bestN (rsN o (11 - k)) j (v + 1)))), (0, .ref m0), (1, .int (nI k)), (2, .int (nI j)), (4, .int (nI v))]) hx hb dX11_laysRest_87 rfl hl (by decide) rfl (fun ls hl => ?_)
                              refine lv_iinc (v := nI (v + 1)) (lv' := [(4, .int (nI (v + 1))), (3, .int (nI (bestN (rsN o (11 - k)) j (v + 1)))), (0, .ref m0), (1, .int (nI k)), (2, .int (nI j))]) hx hb dX11_laysRest_88 hl (k := 4) rfl (nI_1 v) (by decide) rfl (fun ls hl => ?_)
                              refine lv_goto (tgt := 42) hx hb dX11_laysRest_91 (by decide) ?_
                              exact ih42 (v + 1) (nI (bestN (rsN o (11 - k)) j (v + 1))) (by omega) (by omega) rfl _ _ _ hP hD hS (lv_sub hl [2, 3, 4, 1, 0] rfl)
                            · refine lv_aload_n hx hb dX11_laysRest_72 rfl (lv_at hl 0 rfl) ?_
                              refine va_get (v := .ref rs) (T := TX11) (N := 35) hx hb hts inX11 hown hK hP 0 rfl rfl 34 (by decide) f76 (fun _ h9 => h9) rfl dX11_laysRest_73 ?_
                              refine lv_iload_n hx hb dX11_laysRest_76 rfl (lv_at hl 1 rfl) ?_
                              refine lv_iconst (v := 1) hx hb dX11_laysRest_77 (by decide) ?_
                              refine lv_iadd hx hb dX11_laysRest_78 ?_
                              refine he_top (nI (k + 1)) (nI_add k 1) ?_
                              refine he_aldm hx hb hK hP 2 rfl (k + 1) rfl (by first | assumption | decide | omega) (by decide) dX11_laysRest_79 ?_
                              refine lv_iload hx hb dX11_laysRest_80 (lv_at hl 4 rfl) ?_
                              refine he_pald hx hb hK hP (F_r11 (k + 1) (by first | assumption | decide | omega)).1 (v) rfl (by rw [(F_r11 (k + 1) (by first | assumption | decide | omega)).2.1]; exact (by first | assumption | decide | omega)) (by rw [(F_r11 (k + 1) (by first | assumption | decide | omega)).2.1]; decide) (nI (rsN o (11 - k) v)) (rs_at hrs (by omega) (by omega)) dX11_laysRest_82 ?_
                              refine lv_goto (tgt := 87) hx hb dX11_laysRest_83 (by decide) ?_
                              have hb8 := bestN_le (f := rsN o (11 - k)) (w := j) (B := 999 * (11 - k)) (fun v _ => rsN_le hob (11 - k) v)
                              refine he_top (nI (bestN (rsN o (11 - k)) j (v + 1))) (by rw [best_t (f := rsN o (11 - k)) (w := j) (v := v) c_16 ((nI_ltI (by have := hb8 v (by omega); omega) (by have := rsN_le hob (11 - k) v; omega)).mp (by rw [← hbs]; exact Int32.not_le.mp c_17))]) ?_
                              refine lv_istore_n (lv' := [(3, .int (nI (bestN (rsN o (11 - k)) j (v + 1)))), (0, .ref m0), (1, .int (nI k)), (2, .int (nI j)), (4, .int (nI v))]) hx hb dX11_laysRest_87 rfl hl (by decide) rfl (fun ls hl => ?_)
                              refine lv_iinc (v := nI (v + 1)) (lv' := [(4, .int (nI (v + 1))), (3, .int (nI (bestN (rsN o (11 - k)) j (v + 1)))), (0, .ref m0), (1, .int (nI k)), (2, .int (nI j))]) hx hb dX11_laysRest_88 hl (k := 4) rfl (nI_1 v) (by decide) rfl (fun ls hl => ?_)
                              refine lv_goto (tgt := 42) hx hb dX11_laysRest_91 (by decide) ?_
                              exact ih42 (v + 1) (nI (bestN (rsN o (11 - k)) j (v + 1))) (by omega) (by omega) rfl _ _ _ hP hD hS (lv_sub hl [2, 3, 4, 1, 0] rfl)
                    exact loop42 ((3 - 0) + 1) 0 0 (Nat.lt_succ_self _) (Nat.zero_le _) rfl _ _ _ hP hD hS (lv_sub hl [2, 3, 4, 1, 0] rfl)
              exact loop32 ((3 - 0) + 1) 0 Mj (Nat.lt_succ_self _) (Nat.zero_le _) hrs (fun w hw => absurd hw (Nat.not_lt_zero w)) hmx _ _ _ hP hD hS (lv_sub hl [1, 2, 0] rfl)
        exact loop26 ((12) + 1) 12 11 Mj (Nat.lt_succ_self _) (by decide) (by decide) (rs_12 hrw) hmx _ _ _ hP hD hS (lv_sub hl [1, 0] rfl)
      · have k_18 : ¬ (3 ≤ q) := fun h9 => c_1 ((he_cle (a := 3) (b := q) (by decide) rfl (by omega) (by omega)).mpr h9)
        refine lv_aload_n hx hb dX11_laysRest_7 rfl (lv_at hl 0 rfl) ?_
        refine va_get (v := .ref rs) (T := TX11) (N := 35) hx hb hts inX11 hown hK hP 0 rfl rfl 34 (by decide) f76 (fun _ h9 => h9) rfl dX11_laysRest_8 ?_
        refine lv_bipush (v := 12) hx hb dX11_laysRest_11 (by decide) ?_
        refine he_aldm hx hb hK hP 2 rfl (12) (by decide) (by decide) (by decide) dX11_laysRest_13 ?_
        refine lv_iload_n hx hb dX11_laysRest_14 rfl (lv_at hl 1 rfl) ?_
        refine lv_iconst (v := 0) hx hb dX11_laysRest_15 (by decide) ?_
        refine he_past hx hb hK hP hD hS (F_r11 12 (by decide)).1 (q) rfl (by rw [(F_r11 12 (by decide)).2.1]; exact (by first | assumption | decide | omega)) (by rw [(F_r11 12 (by decide)).2.1]; decide) dX11_laysRest_16 (fun H locs hP hD hS => ?_)
        have hP : va_P g.1 vwCl ([(oX11 m0 tw ta sz_ pl at_ fa fw cs fd rfm rt_ to_ rw_ wa ct rk rb cn br sm as_ go sh_ ir oa ob th ig sp_ ki tg of_ kp sf rs), (aM g of_ 2 (he_ro 2 r9)), (aM g rs 13 (he_ro 13 r11))] ++ he_pl g L ln (va_up Mj (r11 12) (upd (Mj (r11 12)) q 0))) H := hP
        have hD : va_D A ([(oX11 m0 tw ta sz_ pl at_ fa fw cs fd rfm rt_ to_ rw_ wa ct rk rb cn br sm as_ go sh_ ir oa ob th ig sp_ ki tg of_ kp sf rs), (aM g of_ 2 (he_ro 2 r9)), (aM g rs 13 (he_ro 13 r11))] ++ he_pl g L ln (va_up Mj (r11 12) (upd (Mj (r11 12)) q 0))) := hD
        refine lv_iinc (v := nI (q + 1)) (lv' := [(1, .int (nI (q + 1))), (0, .ref m0)]) hx hb dX11_laysRest_17 hl (k := 1) rfl (nI_1 q) (by decide) rfl (fun ls hl => ?_)
        refine lv_goto (tgt := 2) hx hb dX11_laysRest_20 (by decide) ?_
        exact ih2 (q + 1) (va_up Mj (r11 12) (upd (Mj (r11 12)) q 0)) (by omega) (by omega) (rw_s (by rfl) hrw) (mEx_up hmx (by omega) _) _ _ _ hP hD hS (lv_sub hl [1, 0] rfl)
  exact loop2 ((3 - 0) + 1) 0 M (Nat.lt_succ_self _) (Nat.zero_le _) (fun w hw => absurd hw (Nat.not_lt_zero w)) (mEx_refl _ _ _) _ _ _ hP hD hS (lv_sub hl [1, 0] rfl)
set_option maxHeartbeats 4000000 in
set_option maxRecDepth 100000 in
theorem h_X11_mostNow (l : Launch) (g : he_G) (m0 : Nat) (fd : Nat) (rfm : Nat) (rt_ : Nat) (to_ : Nat) (rw_ : Nat) (wa : Nat) (rk : Nat) (rb : Nat) (cn : Nat) (br : Nat) (sm : Nat) (as_ : Nat) (go : Nat) (sh_ : Nat) (ki : Nat) (tg : Nat) (of_ : Nat) (kp : Nat) (rs : Nat) (ta : Int32) (sz_ : Int32) (pl : Int32) (at_ : Int32) (fa : Int32) (fw : Int32) (cs : Int32) (ct : Int32) (ir : Int32) (oa : Int32) (ob : Int32) (th : Int32) (ig : Int32) (sp_ : Int32) (sf : Int32) (tw : Int32) (L : List Nat) (ln : Nat → Nat) (M : Nat → Nat → Int32) (r9 : Nat → Nat) (r11 : Nat → Nat) (o : Nat → Nat → Nat) (F_r9 : ∀ i, i < 2 → r9 i ∈ L ∧ ln (r9 i) = 12 ∧ True) (F_r11 : ∀ i, i < 13 → r11 i ∈ L ∧ ln (r11 i) = 3 ∧ True) (D_r9_r11 : ∀ i j, i < 2 → j < 13 → r9 i ≠ r11 j) (J_r11 : ∀ a b, a < 13 → b < 13 → r11 a = r11 b → a = b) (ho : oOk r9 o M) (hob : ∀ d m, o d m ≤ 999) : he_I l yX11_mostNow wsX11_mostNow 2 45 0 0 g [.ref m0] ([(oX11 m0 tw ta sz_ pl at_ fa fw cs fd rfm rt_ to_ rw_ wa ct rk rb cn br sm as_ go sh_ ir oa ob th ig sp_ ki tg of_ kp sf rs), (aM g of_ 2 (he_ro 2 r9)), (aM g rs 13 (he_ro 13 r11))] ++ he_pl g L ln M) (fun (r : Int32) (u : Nat → Nat → Int32) => r = nI (bestN (rsN o 12) 0 3) ∧ rsOk r11 o u 0 ∧ mEx r11 13 M u) (fun (u : Nat → Nat → Int32) => [(oX11 m0 tw ta sz_ pl at_ fa fw cs fd rfm rt_ to_ rw_ wa ct rk rb cn br sm as_ go sh_ ir oa ob th ig sp_ ki tg of_ kp sf rs), (aM g of_ 2 (he_ro 2 r9)), (aM g rs 13 (he_ro 13 r11))] ++ he_pl g L ln u) := by
  refine he_begin (l := l) (g := g) (y := yX11_mostNow) (wl := wsX11_mostNow) (fr := 2) (lo := 45) (mc := 0) (ms := 0) (av := [.ref m0]) (ws := ([(oX11 m0 tw ta sz_ pl at_ fa fw cs fd rfm rt_ to_ rw_ wa ct rk rb cn br sm as_ go sh_ ir oa ob th ig sp_ ki tg of_ kp sf rs), (aM g of_ 2 (he_ro 2 r9)), (aM g rs 13 (he_ro 13 r11))] ++ he_pl g L ln M)) (cc := cX11_mostNow) (maxL := 3) (ret := (some .int)) (fun A => va_Qi (fun (r : Int32) (u : Nat → Nat → Int32) => r = nI (bestN (rsN o 12) 0 3) ∧ rsOk r11 o u 0 ∧ mEx r11 13 M u) (fun u t => he_post g A ((fun (u : Nat → Nat → Int32) => [(oX11 m0 tw ta sz_ pl at_ fa fw cs fd rfm rt_ to_ rw_ wa ct rk rb cn br sm as_ go sh_ ir oa ob th ig sp_ ki tg of_ kp sf rs), (aM g of_ 2 (he_ro 2 r9)), (aM g rs 13 (he_ro 13 r11))] ++ he_pl g L ln u) u) t) A) (by decide) rfl (Nat.le_of_ble_eq_true rfl) ?_
  intro p e s m args below meth c A ls H locs Q hQ hB
  obtain ⟨hx, hb, hr, hml, hown, hts, hlk, hin, hP, hK, hD, hS, hA, hE, hl⟩ := hB
  have hl : lv_has ls 3 [(0, .ref m0)] := hl
  have f76 := hts (.fieldLink RX11 76 "HiredEnemyModel" "rest" "[[I") (iwoX11_mostNow (k := 0) rfl)
  have inX11 : ∀ w ∈ wsX110, w ∈ wsX11_mostNow := innX11_mostNow_X11
  refine lv_aload_n hx hb dX11_mostNow_0 rfl (lv_at hl 0 rfl) ?_
  refine he_cv (wc := ([(oX11 m0 tw ta sz_ pl at_ fa fw cs fd rfm rt_ to_ rw_ wa ct rk rb cn br sm as_ go sh_ ir oa ob th ig sp_ ki tg of_ kp sf rs), (aM g of_ 2 (he_ro 2 r9)), (aM g rs 13 (he_ro 13 r11))] ++ (he_pl g L ln M))) (wr := []) (va_runV (As := []) (rest := []) ⟨hx, hb, hml, hown, hts⟩ (h_X11_laysRest l g m0 fd rfm rt_ to_ rw_ wa rk rb cn br sm as_ go sh_ ki tg of_ kp rs ta sz_ pl at_ fa fw cs ct ir oa ob th ig sp_ sf tw L ln M r9 r11 o (by first | assumption | decide | omega) (by first | assumption | decide | omega) (by first | assumption | decide | omega) (by first | assumption | decide | omega) (by first | assumption | decide | omega) (by first | assumption | decide | omega) H.size) (cwV 0 hts gX11_mostNow_X11_laysRest rfl rfl rfl (by decide +kernel) ⟨Nat.le_of_ble_eq_true rfl, Nat.le_of_ble_eq_true rfl⟩) (he_preV (wc := ([(oX11 m0 tw ta sz_ pl at_ fa fw cs fd rfm rt_ to_ rw_ wa ct rk rb cn br sm as_ go sh_ ir oa ob th ig sp_ ki tg of_ kp sf rs), (aM g of_ 2 (he_ro 2 r9)), (aM g rs 13 (he_ro 13 r11))] ++ (he_pl g L ln M))) hK hP hD hS hA hE (he_is [0, 1, 2] [(oX11 m0 tw ta sz_ pl at_ fa fw cs fd rfm rt_ to_ rw_ wa ct rk rb cn br sm as_ go sh_ ir oa ob th ig sp_ ki tg of_ kp sf rs), (aM g of_ 2 (he_ro 2 r9)), (aM g rs 13 (he_ro 13 r11))] (he_pl g L ln M)) (he_ixP rfl) (he_ndP rfl rfl) 0 rfl rfl) rfl rfl hl.1 rfl (lv_room (Nat.le_of_ble_eq_true rfl)) dX11_mostNow_1 ⟨(Nat.le_of_ble_eq_true rfl), (Nat.le_of_ble_eq_true rfl)⟩) hP hD hS hA (he_is [0, 1, 2] [(oX11 m0 tw ta sz_ pl at_ fa fw cs fd rfm rt_ to_ rw_ wa ct rk rb cn br sm as_ go sh_ ir oa ob th ig sp_ ki tg of_ kp sf rs), (aM g of_ 2 (he_ro 2 r9)), (aM g rs 13 (he_ro 13 r11))] (he_pl g L ln M)) [] (he_ixP rfl) rfl rfl (he_disP (by decide) rfl) (fun u_2 H locs h_3 hP hD hS => ?_)
  obtain ⟨Mu_4, rfl⟩ : ∃ z, z = u_2 := ⟨_, rfl⟩
  try dsimp only at h_3
  obtain ⟨hf_5, hf_6⟩ := h_3
  have hP : va_P g.1 vwCl ([(oX11 m0 tw ta sz_ pl at_ fa fw cs fd rfm rt_ to_ rw_ wa ct rk rb cn br sm as_ go sh_ ir oa ob th ig sp_ ki tg of_ kp sf rs), (aM g of_ 2 (he_ro 2 r9)), (aM g rs 13 (he_ro 13 r11))] ++ he_pl g L ln Mu_4) H := hP
  have hD : va_D A ([(oX11 m0 tw ta sz_ pl at_ fa fw cs fd rfm rt_ to_ rw_ wa ct rk rb cn br sm as_ go sh_ ir oa ob th ig sp_ ki tg of_ kp sf rs), (aM g of_ 2 (he_ro 2 r9)), (aM g rs 13 (he_ro 13 r11))] ++ he_pl g L ln Mu_4) := hD
  have hb90 := rsN_le hob 12 0
  have hb91 := rsN_le hob 12 1
  have hb92 := rsN_le hob 12 2
  refine lv_aload_n hx hb dX11_mostNow_4 rfl (lv_at hl 0 rfl) ?_
  refine va_get (v := .ref rs) (T := TX11) (N := 35) hx hb hts inX11 hown hK hP 0 rfl rfl 34 (by decide) f76 (fun _ h9 => h9) rfl dX11_mostNow_5 ?_
  refine lv_iconst (v := 0) hx hb dX11_mostNow_8 (by decide) ?_
  refine he_aldm hx hb hK hP 2 rfl (0) (by decide) (by decide) (by decide) dX11_mostNow_9 ?_
  refine lv_iconst (v := 0) hx hb dX11_mostNow_10 (by decide) ?_
  refine he_pald hx hb hK hP (F_r11 0 (by decide)).1 (0) (by decide) (by rw [(F_r11 0 (by decide)).2.1]; exact (by decide)) (by rw [(F_r11 0 (by decide)).2.1]; decide) (nI (rsN o 12 0)) (hf_5 0 (Nat.le_refl 0) (by decide) 0 (by omega)) dX11_mostNow_11 ?_
  refine lv_istore_n (lv' := [(1, .int (nI (rsN o 12 0))), (0, .ref m0)]) hx hb dX11_mostNow_12 rfl hl (by decide) rfl (fun ls hl => ?_)
  refine lv_iconst (v := 1) hx hb dX11_mostNow_13 (by decide) ?_
  refine lv_istore_n (lv' := [(2, .int 1), (1, .int (nI (rsN o 12 0))), (0, .ref m0)]) hx hb dX11_mostNow_14 rfl hl (by decide) rfl (fun ls hl => ?_)
  refine lv_iload_n hx hb dX11_mostNow_15 rfl (lv_at hl 0 rfl) ?_
  refine lv_iconst (v := 3) hx hb dX11_mostNow_16 (by decide) ?_
  refine lv_icmp_ge (tgt := 51) hx hb dX11_mostNow_17 (by decide) (fun c_7 => ?_) (fun c_7 => ?_)
  · exact absurd c_7 (by decide)
  · refine lv_aload_n hx hb dX11_mostNow_20 rfl (lv_at hl 2 rfl) ?_
    refine va_get (v := .ref rs) (T := TX11) (N := 35) hx hb hts inX11 hown hK hP 0 rfl rfl 34 (by decide) f76 (fun _ h9 => h9) rfl dX11_mostNow_21 ?_
    refine lv_iconst (v := 0) hx hb dX11_mostNow_24 (by decide) ?_
    refine he_aldm hx hb hK hP 2 rfl (0) (by decide) (by decide) (by decide) dX11_mostNow_25 ?_
    refine lv_iload_n hx hb dX11_mostNow_26 rfl (lv_at hl 0 rfl) ?_
    refine he_pald hx hb hK hP (F_r11 0 (by decide)).1 (1) (by decide) (by rw [(F_r11 0 (by decide)).2.1]; exact (by decide)) (by rw [(F_r11 0 (by decide)).2.1]; decide) (nI (rsN o 12 1)) (hf_5 0 (Nat.le_refl 0) (by decide) 1 (by omega)) dX11_mostNow_27 ?_
    refine lv_iload_n hx hb dX11_mostNow_28 rfl (lv_at hl 1 rfl) ?_
    refine lv_icmp_le (tgt := 43) hx hb dX11_mostNow_29 (by decide) (fun c_8 => ?_) (fun c_8 => ?_)
    · have k_9 : rsN o 12 1 ≤ rsN o 12 0 := (he_cle (a := rsN o 12 1) (b := rsN o 12 0) rfl rfl (by omega) (by omega)).mp c_8
      refine lv_iload_n hx hb dX11_mostNow_43 rfl (lv_at hl 1 rfl) ?_
      refine lv_istore_n (lv' := [(1, .int (nI (rsN o 12 0))), (2, .int 1), (0, .ref m0)]) hx hb dX11_mostNow_44 rfl hl (by decide) rfl (fun ls hl => ?_)
      refine lv_iinc (v := 2) (lv' := [(2, .int 2), (1, .int (nI (rsN o 12 0))), (0, .ref m0)]) hx hb dX11_mostNow_45 hl (k := 1) rfl (by decide) (by decide) rfl (fun ls hl => ?_)
      refine lv_goto (tgt := 15) hx hb dX11_mostNow_48 (by decide) ?_
      refine lv_iload_n hx hb dX11_mostNow_15 rfl (lv_at hl 0 rfl) ?_
      refine lv_iconst (v := 3) hx hb dX11_mostNow_16 (by decide) ?_
      refine lv_icmp_ge (tgt := 51) hx hb dX11_mostNow_17 (by decide) (fun c_10 => ?_) (fun c_10 => ?_)
      · exact absurd c_10 (by decide)
      · refine lv_aload_n hx hb dX11_mostNow_20 rfl (lv_at hl 2 rfl) ?_
        refine va_get (v := .ref rs) (T := TX11) (N := 35) hx hb hts inX11 hown hK hP 0 rfl rfl 34 (by decide) f76 (fun _ h9 => h9) rfl dX11_mostNow_21 ?_
        refine lv_iconst (v := 0) hx hb dX11_mostNow_24 (by decide) ?_
        refine he_aldm hx hb hK hP 2 rfl (0) (by decide) (by decide) (by decide) dX11_mostNow_25 ?_
        refine lv_iload_n hx hb dX11_mostNow_26 rfl (lv_at hl 0 rfl) ?_
        refine he_pald hx hb hK hP (F_r11 0 (by decide)).1 (2) (by decide) (by rw [(F_r11 0 (by decide)).2.1]; exact (by decide)) (by rw [(F_r11 0 (by decide)).2.1]; decide) (nI (rsN o 12 2)) (hf_5 0 (Nat.le_refl 0) (by decide) 2 (by omega)) dX11_mostNow_27 ?_
        refine lv_iload_n hx hb dX11_mostNow_28 rfl (lv_at hl 1 rfl) ?_
        refine lv_icmp_le (tgt := 43) hx hb dX11_mostNow_29 (by decide) (fun c_11 => ?_) (fun c_11 => ?_)
        · have k_12 : rsN o 12 2 ≤ rsN o 12 0 := (he_cle (a := rsN o 12 2) (b := rsN o 12 0) rfl rfl (by omega) (by omega)).mp c_11
          refine lv_iload_n hx hb dX11_mostNow_43 rfl (lv_at hl 1 rfl) ?_
          refine lv_istore_n (lv' := [(1, .int (nI (rsN o 12 0))), (2, .int 2), (0, .ref m0)]) hx hb dX11_mostNow_44 rfl hl (by decide) rfl (fun ls hl => ?_)
          refine lv_iinc (v := 3) (lv' := [(2, .int 3), (1, .int (nI (rsN o 12 0))), (0, .ref m0)]) hx hb dX11_mostNow_45 hl (k := 1) rfl (by decide) (by decide) rfl (fun ls hl => ?_)
          refine lv_goto (tgt := 15) hx hb dX11_mostNow_48 (by decide) ?_
          refine lv_iload_n hx hb dX11_mostNow_15 rfl (lv_at hl 0 rfl) ?_
          refine lv_iconst (v := 3) hx hb dX11_mostNow_16 (by decide) ?_
          refine lv_icmp_ge (tgt := 51) hx hb dX11_mostNow_17 (by decide) (fun c_13 => ?_) (fun c_13 => ?_)
          · refine lv_iload_n hx hb dX11_mostNow_51 rfl (lv_at hl 1 rfl) ?_
            exact he_ri hQ hx hb hr hlk hP hD hS dX11_mostNow_52 (Nat.le_of_ble_eq_true rfl) (Nat.le_of_ble_eq_true rfl) (Mu_4) (rfl) (⟨by rw [best_0]; congr 1; (repeat' split) <;> omega, hf_5, hf_6⟩)
          · exact absurd (by decide) c_13
        · have k_14 : ¬ (rsN o 12 2 ≤ rsN o 12 0) := fun h9 => c_11 ((he_cle (a := rsN o 12 2) (b := rsN o 12 0) rfl rfl (by omega) (by omega)).mpr h9)
          refine lv_aload_n hx hb dX11_mostNow_32 rfl (lv_at hl 2 rfl) ?_
          refine va_get (v := .ref rs) (T := TX11) (N := 35) hx hb hts inX11 hown hK hP 0 rfl rfl 34 (by decide) f76 (fun _ h9 => h9) rfl dX11_mostNow_33 ?_
          refine lv_iconst (v := 0) hx hb dX11_mostNow_36 (by decide) ?_
          refine he_aldm hx hb hK hP 2 rfl (0) (by decide) (by decide) (by decide) dX11_mostNow_37 ?_
          refine lv_iload_n hx hb dX11_mostNow_38 rfl (lv_at hl 0 rfl) ?_
          refine he_pald hx hb hK hP (F_r11 0 (by decide)).1 (2) (by decide) (by rw [(F_r11 0 (by decide)).2.1]; exact (by decide)) (by rw [(F_r11 0 (by decide)).2.1]; decide) (nI (rsN o 12 2)) (hf_5 0 (Nat.le_refl 0) (by decide) 2 (by omega)) dX11_mostNow_39 ?_
          refine lv_goto (tgt := 44) hx hb dX11_mostNow_40 (by decide) ?_
          refine lv_istore_n (lv' := [(1, .int (nI (rsN o 12 2))), (2, .int 2), (0, .ref m0)]) hx hb dX11_mostNow_44 rfl hl (by decide) rfl (fun ls hl => ?_)
          refine lv_iinc (v := 3) (lv' := [(2, .int 3), (1, .int (nI (rsN o 12 2))), (0, .ref m0)]) hx hb dX11_mostNow_45 hl (k := 1) rfl (by decide) (by decide) rfl (fun ls hl => ?_)
          refine lv_goto (tgt := 15) hx hb dX11_mostNow_48 (by decide) ?_
          refine lv_iload_n hx hb dX11_mostNow_15 rfl (lv_at hl 0 rfl) ?_
          refine lv_iconst (v := 3) hx hb dX11_mostNow_16 (by decide) ?_
          refine lv_icmp_ge (tgt := 51) hx hb dX11_mostNow_17 (by decide) (fun c_15 => ?_) (fun c_15 => ?_)
          · refine lv_iload_n hx hb dX11_mostNow_51 rfl (lv_at hl 1 rfl) ?_
            exact he_ri hQ hx hb hr hlk hP hD hS dX11_mostNow_52 (Nat.le_of_ble_eq_true rfl) (Nat.le_of_ble_eq_true rfl) (Mu_4) (rfl) (⟨by rw [best_0]; congr 1; (repeat' split) <;> omega, hf_5, hf_6⟩)
          · exact absurd (by decide) c_15
    · have k_16 : ¬ (rsN o 12 1 ≤ rsN o 12 0) := fun h9 => c_8 ((he_cle (a := rsN o 12 1) (b := rsN o 12 0) rfl rfl (by omega) (by omega)).mpr h9)
      refine lv_aload_n hx hb dX11_mostNow_32 rfl (lv_at hl 2 rfl) ?_
      refine va_get (v := .ref rs) (T := TX11) (N := 35) hx hb hts inX11 hown hK hP 0 rfl rfl 34 (by decide) f76 (fun _ h9 => h9) rfl dX11_mostNow_33 ?_
      refine lv_iconst (v := 0) hx hb dX11_mostNow_36 (by decide) ?_
      refine he_aldm hx hb hK hP 2 rfl (0) (by decide) (by decide) (by decide) dX11_mostNow_37 ?_
      refine lv_iload_n hx hb dX11_mostNow_38 rfl (lv_at hl 0 rfl) ?_
      refine he_pald hx hb hK hP (F_r11 0 (by decide)).1 (1) (by decide) (by rw [(F_r11 0 (by decide)).2.1]; exact (by decide)) (by rw [(F_r11 0 (by decide)).2.1]; decide) (nI (rsN o 12 1)) (hf_5 0 (Nat.le_refl 0) (by decide) 1 (by omega)) dX11_mostNow_39 ?_
      refine lv_goto (tgt := 44) hx hb dX11_mostNow_40 (by decide) ?_
      refine lv_istore_n (lv' := [(1, .int (nI (rsN o 12 1))), (2, .int 1), (0, .ref m0)]) hx hb dX11_mostNow_44 rfl hl (by decide) rfl (fun ls hl => ?_)
      refine lv_iinc (v := 2) (lv' := [(2, .int 2), (1, .int (nI (rsN o 12 1))), (0, .ref m0)]) hx hb dX11_mostNow_45 hl (k := 1) rfl (by decide) (by decide) rfl (fun ls hl => ?_)
      refine lv_goto (tgt := 15) hx hb dX11_mostNow_48 (by decide) ?_
      refine lv_iload_n hx hb dX11_mostNow_15 rfl (lv_at hl 0 rfl) ?_
      refine lv_iconst (v := 3) hx hb dX11_mostNow_16 (by decide) ?_
      refine lv_icmp_ge (tgt := 51) hx hb dX11_mostNow_17 (by decide) (fun c_17 => ?_) (fun c_17 => ?_)
      · exact absurd c_17 (by decide)
      · refine lv_aload_n hx hb dX11_mostNow_20 rfl (lv_at hl 2 rfl) ?_
        refine va_get (v := .ref rs) (T := TX11) (N := 35) hx hb hts inX11 hown hK hP 0 rfl rfl 34 (by decide) f76 (fun _ h9 => h9) rfl dX11_mostNow_21 ?_
        refine lv_iconst (v := 0) hx hb dX11_mostNow_24 (by decide) ?_
        refine he_aldm hx hb hK hP 2 rfl (0) (by decide) (by decide) (by decide) dX11_mostNow_25 ?_
        refine lv_iload_n hx hb dX11_mostNow_26 rfl (lv_at hl 0 rfl) ?_
        refine he_pald hx hb hK hP (F_r11 0 (by decide)).1 (2) (by decide) (by rw [(F_r11 0 (by decide)).2.1]; exact (by decide)) (by rw [(F_r11 0 (by decide)).2.1]; decide) (nI (rsN o 12 2)) (hf_5 0 (Nat.le_refl 0) (by decide) 2 (by omega)) dX11_mostNow_27 ?_
        refine lv_iload_n hx hb dX11_mostNow_28 rfl (lv_at hl 1 rfl) ?_
        refine lv_icmp_le (tgt := 43) hx hb dX11_mostNow_29 (by decide) (fun c_18 => ?_) (fun c_18 => ?_)
        · have k_19 : rsN o 12 2 ≤ rsN o 12 1 := (he_cle (a := rsN o 12 2) (b := rsN o 12 1) rfl rfl (by omega) (by omega)).mp c_18
          refine lv_iload_n hx hb dX11_mostNow_43 rfl (lv_at hl 1 rfl) ?_
          refine lv_istore_n (lv' := [(1, .int (nI (rsN o 12 1))), (2, .int 2), (0, .ref m0)]) hx hb dX11_mostNow_44 rfl hl (by decide) rfl (fun ls hl => ?_)
          refine lv_iinc (v := 3) (lv' := [(2, .int 3), (1, .int (nI (rsN o 12 1))), (0, .ref m0)]) hx hb dX11_mostNow_45 hl (k := 1) rfl (by decide) (by decide) rfl (fun ls hl => ?_)
          refine lv_goto (tgt := 15) hx hb dX11_mostNow_48 (by decide) ?_
          refine lv_iload_n hx hb dX11_mostNow_15 rfl (lv_at hl 0 rfl) ?_
          refine lv_iconst (v := 3) hx hb dX11_mostNow_16 (by decide) ?_
          refine lv_icmp_ge (tgt := 51) hx hb dX11_mostNow_17 (by decide) (fun c_20 => ?_) (fun c_20 => ?_)
          · refine lv_iload_n hx hb dX11_mostNow_51 rfl (lv_at hl 1 rfl) ?_
            exact he_ri hQ hx hb hr hlk hP hD hS dX11_mostNow_52 (Nat.le_of_ble_eq_true rfl) (Nat.le_of_ble_eq_true rfl) (Mu_4) (rfl) (⟨by rw [best_0]; congr 1; (repeat' split) <;> omega, hf_5, hf_6⟩)
          · exact absurd (by decide) c_20
        · have k_21 : ¬ (rsN o 12 2 ≤ rsN o 12 1) := fun h9 => c_18 ((he_cle (a := rsN o 12 2) (b := rsN o 12 1) rfl rfl (by omega) (by omega)).mpr h9)
          refine lv_aload_n hx hb dX11_mostNow_32 rfl (lv_at hl 2 rfl) ?_
          refine va_get (v := .ref rs) (T := TX11) (N := 35) hx hb hts inX11 hown hK hP 0 rfl rfl 34 (by decide) f76 (fun _ h9 => h9) rfl dX11_mostNow_33 ?_
          refine lv_iconst (v := 0) hx hb dX11_mostNow_36 (by decide) ?_
          refine he_aldm hx hb hK hP 2 rfl (0) (by decide) (by decide) (by decide) dX11_mostNow_37 ?_
          refine lv_iload_n hx hb dX11_mostNow_38 rfl (lv_at hl 0 rfl) ?_
          refine he_pald hx hb hK hP (F_r11 0 (by decide)).1 (2) (by decide) (by rw [(F_r11 0 (by decide)).2.1]; exact (by decide)) (by rw [(F_r11 0 (by decide)).2.1]; decide) (nI (rsN o 12 2)) (hf_5 0 (Nat.le_refl 0) (by decide) 2 (by omega)) dX11_mostNow_39 ?_
          refine lv_goto (tgt := 44) hx hb dX11_mostNow_40 (by decide) ?_
          refine lv_istore_n (lv' := [(1, .int (nI (rsN o 12 2))), (2, .int 2), (0, .ref m0)]) hx hb dX11_mostNow_44 rfl hl (by decide) rfl (fun ls hl => ?_)
          refine lv_iinc (v := 3) (lv' := [(2, .int 3), (1, .int (nI (rsN o 12 2))), (0, .ref m0)]) hx hb dX11_mostNow_45 hl (k := 1) rfl (by decide) (by decide) rfl (fun ls hl => ?_)
          refine lv_goto (tgt := 15) hx hb dX11_mostNow_48 (by decide) ?_
          refine lv_iload_n hx hb dX11_mostNow_15 rfl (lv_at hl 0 rfl) ?_
          refine lv_iconst (v := 3) hx hb dX11_mostNow_16 (by decide) ?_
          refine lv_icmp_ge (tgt := 51) hx hb dX11_mostNow_17 (by decide) (fun c_22 => ?_) (fun c_22 => ?_)
          · refine lv_iload_n hx hb dX11_mostNow_51 rfl (lv_at hl 1 rfl) ?_
            exact he_ri hQ hx hb hr hlk hP hD hS dX11_mostNow_52 (Nat.le_of_ble_eq_true rfl) (Nat.le_of_ble_eq_true rfl) (Mu_4) (rfl) (⟨by rw [best_0]; congr 1; (repeat' split) <;> omega, hf_5, hf_6⟩)
          · exact absurd (by decide) c_22
set_option maxHeartbeats 4000000 in
set_option maxRecDepth 100000 in
theorem h_X11_most (l : Launch) (g : he_G) (m0 : Nat) (fd : Nat) (rfm : Nat) (rt_ : Nat) (to_ : Nat) (rw_ : Nat) (wa : Nat) (rk : Nat) (rb : Nat) (cn : Nat) (br : Nat) (sm : Nat) (as_ : Nat) (go : Nat) (sh_ : Nat) (ki : Nat) (tg : Nat) (of_ : Nat) (kp : Nat) (rs : Nat) (ta : Int32) (sz_ : Int32) (pl : Int32) (at_ : Int32) (fa : Int32) (fw : Int32) (cs : Int32) (ct : Int32) (ir : Int32) (oa : Int32) (ob : Int32) (th : Int32) (ig : Int32) (sp_ : Int32) (sf : Int32) (tw : Int32) (L : List Nat) (ln : Nat → Nat) (M : Nat → Nat → Int32) (r9 : Nat → Nat) (r11 : Nat → Nat) (o : Nat → Nat → Nat) (F_r9 : ∀ i, i < 2 → r9 i ∈ L ∧ ln (r9 i) = 12 ∧ True) (F_r11 : ∀ i, i < 13 → r11 i ∈ L ∧ ln (r11 i) = 3 ∧ True) (D_r9_r11 : ∀ i j, i < 2 → j < 13 → r9 i ≠ r11 j) (J_r11 : ∀ a b, a < 13 → b < 13 → r11 a = r11 b → a = b) (ho : oOk r9 o M) (hob : ∀ d m, o d m ≤ 999) : he_I l yX11_most wsX11_most 3 67 0 0 g [.ref m0] ([(oX11 m0 tw ta sz_ pl at_ fa fw cs fd rfm rt_ to_ rw_ wa ct rk rb cn br sm as_ go sh_ ir oa ob th ig sp_ ki tg of_ kp sf rs), (aM g of_ 2 (he_ro 2 r9)), (aM g rs 13 (he_ro 13 r11))] ++ he_pl g L ln M) (fun (r : Int32) (u : Nat → Nat → Int32) => r = nI (bestN (rsN o 12) 0 3) ∧ mEx r11 13 M u) (fun (u : Nat → Nat → Int32) => [(oX11 m0 0 ta sz_ pl at_ fa fw cs fd rfm rt_ to_ rw_ wa ct rk rb cn br sm as_ go sh_ ir oa ob th ig sp_ ki tg of_ kp sf rs), (aM g of_ 2 (he_ro 2 r9)), (aM g rs 13 (he_ro 13 r11))] ++ he_pl g L ln u) := by
  refine he_begin (l := l) (g := g) (y := yX11_most) (wl := wsX11_most) (fr := 3) (lo := 67) (mc := 0) (ms := 0) (av := [.ref m0]) (ws := ([(oX11 m0 tw ta sz_ pl at_ fa fw cs fd rfm rt_ to_ rw_ wa ct rk rb cn br sm as_ go sh_ ir oa ob th ig sp_ ki tg of_ kp sf rs), (aM g of_ 2 (he_ro 2 r9)), (aM g rs 13 (he_ro 13 r11))] ++ he_pl g L ln M)) (cc := cX11_most) (maxL := 1) (ret := (some .int)) (fun A => va_Qi (fun (r : Int32) (u : Nat → Nat → Int32) => r = nI (bestN (rsN o 12) 0 3) ∧ mEx r11 13 M u) (fun u t => he_post g A ((fun (u : Nat → Nat → Int32) => [(oX11 m0 0 ta sz_ pl at_ fa fw cs fd rfm rt_ to_ rw_ wa ct rk rb cn br sm as_ go sh_ ir oa ob th ig sp_ ki tg of_ kp sf rs), (aM g of_ 2 (he_ro 2 r9)), (aM g rs 13 (he_ro 13 r11))] ++ he_pl g L ln u) u) t) A) (by decide) rfl (Nat.le_of_ble_eq_true rfl) ?_
  intro p e s m args below meth c A ls H locs Q hQ hB
  obtain ⟨hx, hb, hr, hml, hown, hts, hlk, hin, hP, hK, hD, hS, hA, hE, hl⟩ := hB
  have hl : lv_has ls 1 [(0, .ref m0)] := hl
  have f85 := hts (.fieldLink RX11 85 "HiredEnemyModel" "thrown" "I") (iwoX11_most (k := 0) rfl)
  have inX11 : ∀ w ∈ wsX110, w ∈ wsX11_most := innX11_most_X11
  refine lv_aload_n hx hb dX11_most_0 rfl (lv_at hl 0 rfl) ?_
  refine lv_iconst (v := 0) hx hb dX11_most_1 (by decide) ?_
  refine va_put (v := .int 0) (ty := .int) (T := TX11) (N := 35) hx hb hts inX11 tyX11 tyX11_ok nmX11 hown hK hP hD hS 0 rfl rfl 0 (by decide) f85 (fun _ h9 => h9) rfl (by decide +kernel) rfl rfl (Nat.le_of_ble_eq_true rfl) dX11_most_2 (fun H locs hP hD hS => ?_)
  have hP : va_P g.1 vwCl ([(oX11 m0 0 ta sz_ pl at_ fa fw cs fd rfm rt_ to_ rw_ wa ct rk rb cn br sm as_ go sh_ ir oa ob th ig sp_ ki tg of_ kp sf rs), (aM g of_ 2 (he_ro 2 r9)), (aM g rs 13 (he_ro 13 r11))] ++ he_pl g L ln M) H := hP
  have hD : va_D A ([(oX11 m0 0 ta sz_ pl at_ fa fw cs fd rfm rt_ to_ rw_ wa ct rk rb cn br sm as_ go sh_ ir oa ob th ig sp_ ki tg of_ kp sf rs), (aM g of_ 2 (he_ro 2 r9)), (aM g rs 13 (he_ro 13 r11))] ++ he_pl g L ln M) := hD
  refine lv_aload_n hx hb dX11_most_5 rfl (lv_at hl 0 rfl) ?_
  refine he_ci (wc := ([(oX11 m0 0 ta sz_ pl at_ fa fw cs fd rfm rt_ to_ rw_ wa ct rk rb cn br sm as_ go sh_ ir oa ob th ig sp_ ki tg of_ kp sf rs), (aM g of_ 2 (he_ro 2 r9)), (aM g rs 13 (he_ro 13 r11))] ++ (he_pl g L ln M))) (wr := []) (va_runV (As := []) (rest := []) ⟨hx, hb, hml, hown, hts⟩ (h_X11_mostNow l g m0 fd rfm rt_ to_ rw_ wa rk rb cn br sm as_ go sh_ ki tg of_ kp rs ta sz_ pl at_ fa fw cs ct ir oa ob th ig sp_ sf 0 L ln M r9 r11 o (by first | assumption | decide | omega) (by first | assumption | decide | omega) (by first | assumption | decide | omega) (by first | assumption | decide | omega) (by first | assumption | decide | omega) (by first | assumption | decide | omega) H.size) (cwV 0 hts gX11_most_X11_mostNow rfl rfl rfl (by decide +kernel) ⟨Nat.le_of_ble_eq_true rfl, Nat.le_of_ble_eq_true rfl⟩) (he_preV (wc := ([(oX11 m0 0 ta sz_ pl at_ fa fw cs fd rfm rt_ to_ rw_ wa ct rk rb cn br sm as_ go sh_ ir oa ob th ig sp_ ki tg of_ kp sf rs), (aM g of_ 2 (he_ro 2 r9)), (aM g rs 13 (he_ro 13 r11))] ++ (he_pl g L ln M))) hK hP hD hS hA hE (he_is [0, 1, 2] [(oX11 m0 0 ta sz_ pl at_ fa fw cs fd rfm rt_ to_ rw_ wa ct rk rb cn br sm as_ go sh_ ir oa ob th ig sp_ ki tg of_ kp sf rs), (aM g of_ 2 (he_ro 2 r9)), (aM g rs 13 (he_ro 13 r11))] (he_pl g L ln M)) (he_ixP rfl) (he_ndP rfl rfl) 0 rfl rfl) rfl rfl hl.1 rfl (lv_room (Nat.le_of_ble_eq_true rfl)) dX11_most_6 ⟨(Nat.le_of_ble_eq_true rfl), (Nat.le_of_ble_eq_true rfl)⟩) hP hD hS hA (he_is [0, 1, 2] [(oX11 m0 0 ta sz_ pl at_ fa fw cs fd rfm rt_ to_ rw_ wa ct rk rb cn br sm as_ go sh_ ir oa ob th ig sp_ ki tg of_ kp sf rs), (aM g of_ 2 (he_ro 2 r9)), (aM g rs 13 (he_ro 13 r11))] (he_pl g L ln M)) [] (he_ixP rfl) rfl rfl (he_disP (by decide) rfl) (fun r_1 u_2 H locs h_3 hP hD hS => ?_)
  obtain ⟨Mu_4, rfl⟩ : ∃ z, z = u_2 := ⟨_, rfl⟩
  try dsimp only at h_3
  obtain ⟨rfl, hf_5, hf_6⟩ := h_3
  have hP : va_P g.1 vwCl ([(oX11 m0 0 ta sz_ pl at_ fa fw cs fd rfm rt_ to_ rw_ wa ct rk rb cn br sm as_ go sh_ ir oa ob th ig sp_ ki tg of_ kp sf rs), (aM g of_ 2 (he_ro 2 r9)), (aM g rs 13 (he_ro 13 r11))] ++ he_pl g L ln Mu_4) H := hP
  have hD : va_D A ([(oX11 m0 0 ta sz_ pl at_ fa fw cs fd rfm rt_ to_ rw_ wa ct rk rb cn br sm as_ go sh_ ir oa ob th ig sp_ ki tg of_ kp sf rs), (aM g of_ 2 (he_ro 2 r9)), (aM g rs 13 (he_ro 13 r11))] ++ he_pl g L ln Mu_4) := hD
  exact he_ri hQ hx hb hr hlk hP hD hS dX11_most_9 (Nat.le_of_ble_eq_true rfl) (Nat.le_of_ble_eq_true rfl) (Mu_4) (rfl) (⟨rfl, hf_6⟩)
end
section
section PTQ
variable {T : Nat → Nat} {n k q : Nat} {wl : List (List Nat)} {bd : Nat → List (Nat × Nat)} {full : Nat → Bool} {vs : List Nat}
theorem pt_q (h : (ptS T n wl bd full k).2.2 = some (q, vs)) : ∃ p, wrdF T k (rn isLt T n k) wl = some q ∧ full q = false ∧ nmS T n (bd q) (rn isLt T n k) = (none, p, vs) ∧ (ptS T n wl bd full k).2.1 ≤ n := by
  cases hw : wrdF T k (rn isLt T n k) wl with
  | none => rw [ptS_n hw] at h; cases h
  | some q' =>
    cases hf : full q' with
    | true => rw [ptS_3 hw hf] at h; cases h
    | false =>
      rcases hn : nmS T n (bd q') (rn isLt T n k) with ⟨f, p, vs'⟩
      cases f with
      | some f => rw [ptS_f hw hf hn] at h; cases h
      | none =>
        by_cases hs : rn isBl T n p < n ∧ T (rn isBl T n p) = 59
        · rw [ptS_o hw hf hn hs] at h ⊢
          cases h
          exact ⟨p, rfl, hf, hn, hs.1⟩
        · rw [ptS_c hw hf hn hs] at h; cases h
end PTQ
/-- a whole text: its fault and the place, or none; the parts it tells up to there -/
def txP (T : Nat → Nat) (n : Nat) (wl : List (List Nat)) (bd : Nat → List (Nat × Nat)) (full : Nat → Nat → Nat → Bool) : Nat → Nat → Nat → Nat → Option (Nat × Nat) × List (Nat × List Nat)
  | 0, _, _, _ => (none, [])
  | f + 1, b, w, k =>
    if n ≤ rn isBl T n k then (none, [])
    else match ptS T n wl bd (full b w) (rn isBl T n k) with
      | (some c, _, _) => (some c, [])
      | (none, _, none) => (none, [])
      | (none, p, some (q, vs)) => ((txP T n wl bd full f (b + 1) (stW q w) p).1, (q, vs) :: (txP T n wl bd full f (b + 1) (stW q w) p).2)
section TXP
variable {T : Nat → Nat} {n k b w q f : Nat} {wl : List (List Nat)} {bd : Nat → List (Nat × Nat)} {full : Nat → Nat → Nat → Bool} {vs : List Nat} {c : Nat × Nat}
theorem tx_e (h : n ≤ rn isBl T n k) : txP T n wl bd full f b w k = (none, []) := by
  cases f with
  | zero => rfl
  | succ f => rw [txP, if_pos h]
theorem tx_f (h : rn isBl T n k < n) (hp : (ptS T n wl bd (full b w) (rn isBl T n k)).1 = some c) : txP T n wl bd full (f + 1) b w k = (some c, []) := by
  rw [txP, if_neg (by omega)]
  rcases hP : ptS T n wl bd (full b w) (rn isBl T n k) with ⟨x, p, y⟩
  rw [hP] at hp
  cases hp
  rfl
theorem tx_o (h : rn isBl T n k < n) (hp : (ptS T n wl bd (full b w) (rn isBl T n k)).1 = none) (hq : (ptS T n wl bd (full b w) (rn isBl T n k)).2.2 = some (q, vs)) : txP T n wl bd full (f + 1) b w k = ((txP T n wl bd full f (b + 1) (stW q w) (ptS T n wl bd (full b w) (rn isBl T n k)).2.1).1, (q, vs) :: (txP T n wl bd full f (b + 1) (stW q w) (ptS T n wl bd (full b w) (rn isBl T n k)).2.1).2) := by
  rw [txP, if_neg (by omega)]
  rcases hP : ptS T n wl bd (full b w) (rn isBl T n k) with ⟨x, p, y⟩
  rw [hP] at hp hq
  cases hp
  cases hq
  rfl
end TXP
def faC : Option (Nat × Nat) → Int32
  | none => 0
  | some c => nI c.1
def faP : Option (Nat × Nat) → Int32
  | none => -1
  | some c => nI c.2
/-- the parts of a text laid into a siege's numbers, one after the other -/
def fdW : List (Nat × List Nat) → Nat → Nat
  | [], w => w
  | a :: L, w => fdW L (stW a.1 w)
def fdD : List (Nat × List Nat) → (Nat → Int32) → (Nat → Int32)
  | [], f => f
  | a :: L, f => fdD L (stD a.1 a.2 f)
def fdN : List (Nat × List Nat) → (Nat → Int32) → (Nat → Int32)
  | [], f => f
  | a :: L, f => fdN L (stN a.1 a.2 f)
def fdT : List (Nat × List Nat) → Nat → (Nat → Int32) → (Nat → Int32)
  | [], _, f => f
  | a :: L, w, f => fdT L (stW a.1 w) (stT a.1 a.2 w f)
def fdM : List (Nat × List Nat) → Nat → (Nat → Int32) → (Nat → Int32)
  | [], _, f => f
  | a :: L, w, f => fdM L (stW a.1 w) (stM a.1 a.2 w f)
def fdRl : List (Nat × List Nat) → (Nat → Int32) → (Nat → Int32)
  | [], f => f
  | a :: L, f => fdRl L (rlD a.1 a.2 f)
def fdB : List (Nat × List Nat) → (Nat → Int32) → (Nat → Int32)
  | [], f => f
  | a :: L, f => fdB L (rlB a.1 a.2 f)
theorem fl6_w {b w q : Nat} (h : fl6 b w q = false) (hw : w ≤ 6) : stW q w ≤ 6 := by
  have := of_decide_eq_false h
  unfold stW
  split
  · omega
  · exact hw
theorem tx_s (j m : Nat) (h : j < m) : m - j = (m - (j + 1)) + 1 := by omega
set_option maxHeartbeats 4000000 in
set_option maxRecDepth 100000 in
theorem p_X7_read6 (l : Launch) (g : he_G) (z0 : Nat) (z1 : Nat) (y0 : Nat) (n : Nat) (y1 : Nat) (n1 : Int32) (at1 : Int32) (fa : Int32) (pl : Int32) (tp : Nat → Int32) (T : Nat → Nat) (nu : Nat → Int32) (p0 : Nat) (p1 : Nat) (p2 : Nat) (p3 : Nat) (p4 : Nat) (w : Nat) (sd : Nat → Int32) (fn : Nat → Int32) (st : Nat → Int32) (me : Nat → Int32) (hn : n ≤ 500) (hw6 : w ≤ 6) (hT : ∀ j, j < n → T j < 256 ∧ tp j = sbI (T j)) : he_I l yX7_read wsX7_read 7 161 0 0 g [.ref z0, .ref y0, .int (nI n), .ref p0] [(oX7 z0 y1 n1 at1 fa pl z1), (aB g y0 500 tp), (aI g z1 3 nu), (oX6 p0 p1 p2 p3 p4 (nI w)), (aI g p1 24 sd), (aI g p2 10 fn), (aI g p3 6 st), (aI g p4 6 me)] (fun (r : Int32) (u : Nat × Int32 × Int32 × (Nat → Int32) × Nat × (Nat → Int32) × (Nat → Int32) × (Nat → Int32) × (Nat → Int32)) => r = u.2.1 ∧ u.2.1 = faC (txP T n wl6 bd6 fl6 61 0 w 0).1 ∧ u.2.2.1 = faP (txP T n wl6 bd6 fl6 61 0 w 0).1 ∧ u.2.2.2.2.1 = fdW (txP T n wl6 bd6 fl6 61 0 w 0).2 w ∧ u.2.2.2.2.2.1 = fdD (txP T n wl6 bd6 fl6 61 0 w 0).2 sd ∧ u.2.2.2.2.2.2.1 = fdN (txP T n wl6 bd6 fl6 61 0 w 0).2 fn ∧ u.2.2.2.2.2.2.2.1 = fdT (txP T n wl6 bd6 fl6 61 0 w 0).2 w st ∧ u.2.2.2.2.2.2.2.2 = fdM (txP T n wl6 bd6 fl6 61 0 w 0).2 w me ∧ u.2.2.2.2.1 ≤ 6) (fun (u : Nat × Int32 × Int32 × (Nat → Int32) × Nat × (Nat → Int32) × (Nat → Int32) × (Nat → Int32) × (Nat → Int32)) => [(oX7 z0 y0 (nI n) (nI u.1) u.2.1 u.2.2.1 z1), (aB g y0 500 tp), (aI g z1 3 u.2.2.2.1), (oX6 p0 p1 p2 p3 p4 (nI u.2.2.2.2.1)), (aI g p1 24 u.2.2.2.2.2.1), (aI g p2 10 u.2.2.2.2.2.2.1), (aI g p3 6 u.2.2.2.2.2.2.2.1), (aI g p4 6 u.2.2.2.2.2.2.2.2)]) := by
  refine he_begin (l := l) (g := g) (y := yX7_read) (wl := wsX7_read) (fr := 7) (lo := 161) (mc := 0) (ms := 0) (av := [.ref z0, .ref y0, .int (nI n), .ref p0]) (ws := [(oX7 z0 y1 n1 at1 fa pl z1), (aB g y0 500 tp), (aI g z1 3 nu), (oX6 p0 p1 p2 p3 p4 (nI w)), (aI g p1 24 sd), (aI g p2 10 fn), (aI g p3 6 st), (aI g p4 6 me)]) (cc := cX7_read) (maxL := 5) (ret := (some .int)) (fun A => va_Qi (fun (r : Int32) (u : Nat × Int32 × Int32 × (Nat → Int32) × Nat × (Nat → Int32) × (Nat → Int32) × (Nat → Int32) × (Nat → Int32)) => r = u.2.1 ∧ u.2.1 = faC (txP T n wl6 bd6 fl6 61 0 w 0).1 ∧ u.2.2.1 = faP (txP T n wl6 bd6 fl6 61 0 w 0).1 ∧ u.2.2.2.2.1 = fdW (txP T n wl6 bd6 fl6 61 0 w 0).2 w ∧ u.2.2.2.2.2.1 = fdD (txP T n wl6 bd6 fl6 61 0 w 0).2 sd ∧ u.2.2.2.2.2.2.1 = fdN (txP T n wl6 bd6 fl6 61 0 w 0).2 fn ∧ u.2.2.2.2.2.2.2.1 = fdT (txP T n wl6 bd6 fl6 61 0 w 0).2 w st ∧ u.2.2.2.2.2.2.2.2 = fdM (txP T n wl6 bd6 fl6 61 0 w 0).2 w me ∧ u.2.2.2.2.1 ≤ 6) (fun u t => he_post g A ((fun (u : Nat × Int32 × Int32 × (Nat → Int32) × Nat × (Nat → Int32) × (Nat → Int32) × (Nat → Int32) × (Nat → Int32)) => [(oX7 z0 y0 (nI n) (nI u.1) u.2.1 u.2.2.1 z1), (aB g y0 500 tp), (aI g z1 3 u.2.2.2.1), (oX6 p0 p1 p2 p3 p4 (nI u.2.2.2.2.1)), (aI g p1 24 u.2.2.2.2.2.1), (aI g p2 10 u.2.2.2.2.2.2.1), (aI g p3 6 u.2.2.2.2.2.2.2.1), (aI g p4 6 u.2.2.2.2.2.2.2.2)]) u) t) A) (by decide) rfl (Nat.le_of_ble_eq_true rfl) ?_
  intro p e s m args below meth c A ls H locs Q hQ hB
  obtain ⟨hx, hb, hr, hml, hown, hts, hlk, hin, hP, hK, hD, hS, hA, hE, hl⟩ := hB
  have hl : lv_has ls 5 [(0, .ref z0), (1, .ref y0), (2, .int (nI n)), (3, .ref p0)] := hl
  have f9 := hts (.fieldLink RX7 9 "HiredEnemy$Reader" "bytes" "[B") (iwoX7_read (k := 0) rfl)
  have inX7 : ∀ w ∈ wsX70, w ∈ wsX7_read := innX7_read_X7
  have ml23 := hts (.methodLink RX7 23 Lib.Math.min.name) (iwoX7_read (k := 1) rfl)
  have msmin := hts (.static Lib.Math.min.name) (iwoX7_read (k := 2) rfl)
  have mi := hts (.initialized "java/lang/Math") (iwoX7_read (k := 3) rfl)
  have mcmin := hts (.code Lib.Math.min.name Lib.Math.min.code 2 (some .int)) (by decide +kernel)
  have f29 := hts (.fieldLink RX7 29 "HiredEnemy$Reader" "length" "I") (iwoX7_read (k := 4) rfl)
  have f32 := hts (.fieldLink RX7 32 "HiredEnemy$Reader" "at" "I") (iwoX7_read (k := 5) rfl)
  have f35 := hts (.fieldLink RX7 35 "HiredEnemy$Reader" "fault" "I") (iwoX7_read (k := 6) rfl)
  have f15 := hts (.fieldLink RX7 15 "HiredEnemy$Reader" "place" "I") (iwoX7_read (k := 7) rfl)
  have dc38 := hE.decl ⟨RX9, "mostParts", "()I"⟩ (by decide +kernel)
  refine lv_aload_n hx hb dX7_read_0 rfl (lv_at hl 0 rfl) ?_
  refine lv_aload_n hx hb dX7_read_1 rfl (lv_at hl 1 rfl) ?_
  refine va_put (v := .ref y0) (ty := tyX7 0) (T := TX7) (N := 6) hx hb hts inX7 tyX7 tyX7_ok nmX7 hown hK hP hD hS 0 rfl rfl 0 (by decide) f9 (fun _ h9 => h9) rfl (by decide +kernel) rfl rfl (Nat.le_of_ble_eq_true rfl) dX7_read_2 (fun H locs hP hD hS => ?_)
  have hP : va_P g.1 vwCl [(oX7 z0 y0 n1 at1 fa pl z1), (aB g y0 500 tp), (aI g z1 3 nu), (oX6 p0 p1 p2 p3 p4 (nI w)), (aI g p1 24 sd), (aI g p2 10 fn), (aI g p3 6 st), (aI g p4 6 me)] H := hP
  have hD : va_D A [(oX7 z0 y0 n1 at1 fa pl z1), (aB g y0 500 tp), (aI g z1 3 nu), (oX6 p0 p1 p2 p3 p4 (nI w)), (aI g p1 24 sd), (aI g p2 10 fn), (aI g p3 6 st), (aI g p4 6 me)] := hD
  refine lv_aload_n hx hb dX7_read_5 rfl (lv_at hl 0 rfl) ?_
  refine lv_iload_n hx hb dX7_read_6 rfl (lv_at hl 2 rfl) ?_
  refine lv_aload_n hx hb dX7_read_7 rfl (lv_at hl 1 rfl) ?_
  refine va_alen (v := 500) hx hb hK hP 1 0 rfl rfl rfl dX7_read_8 ?_
  refine va_mmin hx hb (by rw [hml]; exact hl.1.symm) hown ml23 msmin mi mcmin (by decide) (Nat.le_of_ble_eq_true rfl) (Nat.le_of_ble_eq_true rfl) (Nat.le_of_ble_eq_true rfl) dX7_read_9 ?_
  refine he_top (nI n) (he_min500 hn) ?_
  refine va_put (v := .int (nI n)) (ty := .int) (T := TX7) (N := 6) hx hb hts inX7 tyX7 tyX7_ok nmX7 hown hK hP hD hS 0 rfl rfl 1 (by decide) f29 (fun _ h9 => h9) rfl (by decide +kernel) rfl rfl (Nat.le_of_ble_eq_true rfl) dX7_read_12 (fun H locs hP hD hS => ?_)
  have hP : va_P g.1 vwCl [(oX7 z0 y0 (nI n) at1 fa pl z1), (aB g y0 500 tp), (aI g z1 3 nu), (oX6 p0 p1 p2 p3 p4 (nI w)), (aI g p1 24 sd), (aI g p2 10 fn), (aI g p3 6 st), (aI g p4 6 me)] H := hP
  have hD : va_D A [(oX7 z0 y0 (nI n) at1 fa pl z1), (aB g y0 500 tp), (aI g z1 3 nu), (oX6 p0 p1 p2 p3 p4 (nI w)), (aI g p1 24 sd), (aI g p2 10 fn), (aI g p3 6 st), (aI g p4 6 me)] := hD
  refine lv_aload_n hx hb dX7_read_15 rfl (lv_at hl 0 rfl) ?_
  refine lv_iconst (v := 0) hx hb dX7_read_16 (by decide) ?_
  refine va_put (v := .int 0) (ty := .int) (T := TX7) (N := 6) hx hb hts inX7 tyX7 tyX7_ok nmX7 hown hK hP hD hS 0 rfl rfl 2 (by decide) f32 (fun _ h9 => h9) rfl (by decide +kernel) rfl rfl (Nat.le_of_ble_eq_true rfl) dX7_read_17 (fun H locs hP hD hS => ?_)
  have hP : va_P g.1 vwCl [(oX7 z0 y0 (nI n) 0 fa pl z1), (aB g y0 500 tp), (aI g z1 3 nu), (oX6 p0 p1 p2 p3 p4 (nI w)), (aI g p1 24 sd), (aI g p2 10 fn), (aI g p3 6 st), (aI g p4 6 me)] H := hP
  have hD : va_D A [(oX7 z0 y0 (nI n) 0 fa pl z1), (aB g y0 500 tp), (aI g z1 3 nu), (oX6 p0 p1 p2 p3 p4 (nI w)), (aI g p1 24 sd), (aI g p2 10 fn), (aI g p3 6 st), (aI g p4 6 me)] := hD
  refine lv_aload_n hx hb dX7_read_20 rfl (lv_at hl 0 rfl) ?_
  refine lv_iconst (v := 0) hx hb dX7_read_21 (by decide) ?_
  refine va_put (v := .int 0) (ty := .int) (T := TX7) (N := 6) hx hb hts inX7 tyX7 tyX7_ok nmX7 hown hK hP hD hS 0 rfl rfl 3 (by decide) f35 (fun _ h9 => h9) rfl (by decide +kernel) rfl rfl (Nat.le_of_ble_eq_true rfl) dX7_read_22 (fun H locs hP hD hS => ?_)
  have hP : va_P g.1 vwCl [(oX7 z0 y0 (nI n) 0 0 pl z1), (aB g y0 500 tp), (aI g z1 3 nu), (oX6 p0 p1 p2 p3 p4 (nI w)), (aI g p1 24 sd), (aI g p2 10 fn), (aI g p3 6 st), (aI g p4 6 me)] H := hP
  have hD : va_D A [(oX7 z0 y0 (nI n) 0 0 pl z1), (aB g y0 500 tp), (aI g z1 3 nu), (oX6 p0 p1 p2 p3 p4 (nI w)), (aI g p1 24 sd), (aI g p2 10 fn), (aI g p3 6 st), (aI g p4 6 me)] := hD
  refine lv_aload_n hx hb dX7_read_25 rfl (lv_at hl 0 rfl) ?_
  refine lv_iconst (v := (-1)) hx hb dX7_read_26 (by decide) ?_
  refine va_put (v := .int (-1)) (ty := .int) (T := TX7) (N := 6) hx hb hts inX7 tyX7 tyX7_ok nmX7 hown hK hP hD hS 0 rfl rfl 4 (by decide) f15 (fun _ h9 => h9) rfl (by decide +kernel) rfl rfl (Nat.le_of_ble_eq_true rfl) dX7_read_27 (fun H locs hP hD hS => ?_)
  have hP : va_P g.1 vwCl [(oX7 z0 y0 (nI n) 0 0 (-1) z1), (aB g y0 500 tp), (aI g z1 3 nu), (oX6 p0 p1 p2 p3 p4 (nI w)), (aI g p1 24 sd), (aI g p2 10 fn), (aI g p3 6 st), (aI g p4 6 me)] H := hP
  have hD : va_D A [(oX7 z0 y0 (nI n) 0 0 (-1) z1), (aB g y0 500 tp), (aI g z1 3 nu), (oX6 p0 p1 p2 p3 p4 (nI w)), (aI g p1 24 sd), (aI g p2 10 fn), (aI g p3 6 st), (aI g p4 6 me)] := hD
  refine lv_iconst (v := 0) hx hb dX7_read_30 (by decide) ?_
  refine lv_istore (lv' := [(4, .int 0), (0, .ref z0), (1, .ref y0), (2, .int (nI n)), (3, .ref p0)]) hx hb dX7_read_31 hl (by decide) rfl (fun ls hl => ?_)
  have loop33 : ∀ (n9 : Nat) (j : Nat) (kj : Nat) (nj : Nat → Int32) (wj : Nat) (sj : Nat → Int32) (fj2 : Nat → Int32) (tj : Nat → Int32) (mj : Nat → Int32), 61 - j < n9 → (j ≤ 61) → (kj ≤ n) → (wj ≤ 6) → ((txP T n wl6 bd6 fl6 (61 - j) j wj kj).1 = (txP T n wl6 bd6 fl6 61 0 w 0).1) → (fdW (txP T n wl6 bd6 fl6 (61 - j) j wj kj).2 wj = fdW (txP T n wl6 bd6 fl6 61 0 w 0).2 w) → (fdD (txP T n wl6 bd6 fl6 (61 - j) j wj kj).2 sj = fdD (txP T n wl6 bd6 fl6 61 0 w 0).2 sd) → (fdN (txP T n wl6 bd6 fl6 (61 - j) j wj kj).2 fj2 = fdN (txP T n wl6 bd6 fl6 61 0 w 0).2 fn) → (fdT (txP T n wl6 bd6 fl6 (61 - j) j wj kj).2 wj tj = fdT (txP T n wl6 bd6 fl6 61 0 w 0).2 w st) → (fdM (txP T n wl6 bd6 fl6 (61 - j) j wj kj).2 wj mj = fdM (txP T n wl6 bd6 fl6 61 0 w 0).2 w me) → ∀ (H : Heap) (locs : List Loc) (ls : Array Slot), va_P g.1 vwCl [(oX7 z0 y0 (nI n) (nI kj) 0 (-1) z1), (aB g y0 500 tp), (aI g z1 3 nj), (oX6 p0 p1 p2 p3 p4 (nI wj)), (aI g p1 24 sj), (aI g p2 10 fj2), (aI g p3 6 tj), (aI g p4 6 mj)] H → va_D A [(oX7 z0 y0 (nI n) (nI kj) 0 (-1) z1), (aB g y0 500 tp), (aI g z1 3 nj), (oX6 p0 p1 p2 p3 p4 (nI wj)), (aI g p1 24 sj), (aI g p2 10 fj2), (aI g p3 6 tj), (aI g p4 6 mj)] → va_S A s.heap H locs → lv_has ls 5 [(0, .ref z0), (3, .ref p0), (4, .int (nI j))] → W p l e (he_room 7 161 0 0) s m args below meth c H locs 0 0 Q (F0 m 33 ls []) := by
    intro n9
    induction n9 with
    | zero => intro j kj nj wj sj fj2 tj mj hm9; exact absurd hm9 (Nat.not_lt_zero _)
    | succ n9 ih33 =>
      intro j kj nj wj sj fj2 tj mj hm9 hj hkn hwj hX1 hXuw hXud hXun hXut hXum H locs ls hP hD hS hl
      refine lv_iload hx hb dX7_read_33 (lv_at hl 2 rfl) ?_
      refine lv_aload_n hx hb dX7_read_35 rfl (lv_at hl 1 rfl) ?_
      refine he_ci (wc := [(oX6 p0 p1 p2 p3 p4 (nI wj))]) (wr := [(oX7 z0 y0 (nI n) (nI kj) 0 (-1) z1), (aB g y0 500 tp), (aI g z1 3 nj), (aI g p1 24 sj), (aI g p2 10 fj2), (aI g p3 6 tj), (aI g p4 6 mj)]) (va_runU (As := []) (rest := [.int (nI j)]) ⟨hx, hb, hml, hown, hts⟩ (c_X6_mostParts l g p0 p1 p2 p3 p4 (nI wj) H.size) (va_cwA 0 hts gX7_read_X6_mostParts_u38X6 rfl rfl rfl dc38 (by decide +kernel) ⟨Nat.le_of_ble_eq_true rfl, Nat.le_of_ble_eq_true rfl⟩) (he_preV (wc := [(oX6 p0 p1 p2 p3 p4 (nI wj))]) hK hP hD hS hA hE [3] rfl rfl 3 rfl rfl) rfl rfl hl.1 rfl (lv_room (Nat.le_of_ble_eq_true rfl)) dX7_read_36 ⟨(Nat.le_of_ble_eq_true rfl), (Nat.le_of_ble_eq_true rfl)⟩) hP hD hS hA [3] [0, 1, 2, 4, 5, 6, 7] rfl rfl rfl (by decide) (fun r_1 u_2 H locs h_3 hP hD hS => ?_)
      subst h_3
      have hP : va_P g.1 vwCl [(oX7 z0 y0 (nI n) (nI kj) 0 (-1) z1), (aB g y0 500 tp), (aI g z1 3 nj), (aI g p1 24 sj), (aI g p2 10 fj2), (aI g p3 6 tj), (aI g p4 6 mj), (oX6 p0 p1 p2 p3 p4 (nI wj))] H := hP
      have hD : va_D A [(oX7 z0 y0 (nI n) (nI kj) 0 (-1) z1), (aB g y0 500 tp), (aI g z1 3 nj), (aI g p1 24 sj), (aI g p2 10 fj2), (aI g p3 6 tj), (aI g p4 6 mj), (oX6 p0 p1 p2 p3 p4 (nI wj))] := hD
      refine lv_icmp_gt (tgt := 76) hx hb dX7_read_39 (by decide) (fun c_4 => ?_) (fun c_4 => ?_)
      · have k_5 : 60 < j := (he_clt (a := 60) (b := j) (by decide) rfl (by omega) (by omega)).mp c_4
        refine lv_aload_n hx hb dX7_read_76 rfl (lv_at hl 0 rfl) ?_
        refine va_get (v := .int 0) (T := TX7) (N := 6) hx hb hts inX7 hown hK hP 0 rfl rfl 3 (by decide) f35 (fun _ h9 => h9) rfl dX7_read_77 ?_
        have hP := hP.sub (ws' := [(oX7 z0 y0 (nI n) (nI kj) 0 (-1) z1), (aB g y0 500 tp), (aI g z1 3 nj), (oX6 p0 p1 p2 p3 p4 (nI wj)), (aI g p1 24 sj), (aI g p2 10 fj2), (aI g p3 6 tj), (aI g p4 6 mj)]) [0, 1, 2, 7, 3, 4, 5, 6] rfl
        have hD := hD.sub (ws' := [(oX7 z0 y0 (nI n) (nI kj) 0 (-1) z1), (aB g y0 500 tp), (aI g z1 3 nj), (oX6 p0 p1 p2 p3 p4 (nI wj)), (aI g p1 24 sj), (aI g p2 10 fj2), (aI g p3 6 tj), (aI g p4 6 mj)]) [0, 1, 2, 7, 3, 4, 5, 6] (by decide) rfl
        exact he_ri hQ hx hb hr hlk hP hD hS dX7_read_80 (Nat.le_of_ble_eq_true rfl) (Nat.le_of_ble_eq_true rfl) ((kj, 0, (-1), nj, wj, sj, fj2, tj, mj)) (rfl) ((by have e9 : (txP T n wl6 bd6 fl6 (61 - j) j wj kj) = (none, []) := (by (try dsimp only); rw [show 61 - j = 0 by (try dsimp only); omega]; rfl); rw [e9] at hX1 hXuw hXud hXun hXut hXum; exact ⟨rfl, by rw [← hX1]; rfl, by rw [← hX1]; rfl, hXuw, hXud, hXun, hXut, hXum, hwj⟩))
      · have k_6 : ¬ (60 < j) := fun h9 => c_4 ((he_clt (a := 60) (b := j) (by decide) rfl (by omega) (by omega)).mpr h9)
        refine lv_aload_n hx hb dX7_read_42 rfl (lv_at hl 0 rfl) ?_
        refine he_cv (wc := [(oX7 z0 y0 (nI n) (nI kj) 0 (-1) z1), (aB g y0 500 tp)]) (wr := [(aI g z1 3 nj), (aI g p1 24 sj), (aI g p2 10 fj2), (aI g p3 6 tj), (aI g p4 6 mj), (oX6 p0 p1 p2 p3 p4 (nI wj))]) (va_runV (As := []) (rest := []) ⟨hx, hb, hml, hown, hts⟩ (p_X7_skipBlanks l g z0 z1 y0 n kj 0 (-1) tp T (by first | assumption | decide | omega) (by first | assumption | decide | omega) (by first | assumption | decide | omega) H.size) (cwV 0 hts gX7_read_X7_skipBlanks rfl rfl rfl (by decide +kernel) ⟨Nat.le_of_ble_eq_true rfl, Nat.le_of_ble_eq_true rfl⟩) (he_preV (wc := [(oX7 z0 y0 (nI n) (nI kj) 0 (-1) z1), (aB g y0 500 tp)]) hK hP hD hS hA hE [0, 1] rfl rfl 0 rfl rfl) rfl rfl hl.1 rfl (lv_room (Nat.le_of_ble_eq_true rfl)) dX7_read_43 ⟨(Nat.le_of_ble_eq_true rfl), (Nat.le_of_ble_eq_true rfl)⟩) hP hD hS hA [0, 1] [2, 3, 4, 5, 6, 7] rfl rfl rfl (by decide) (fun u_8 H locs h_9 hP hD hS => ?_)
        have hP : va_P g.1 vwCl [(aI g z1 3 nj), (aI g p1 24 sj), (aI g p2 10 fj2), (aI g p3 6 tj), (aI g p4 6 mj), (oX6 p0 p1 p2 p3 p4 (nI wj)), (oX7 z0 y0 (nI n) (nI (rn isBl T n kj)) 0 (-1) z1), (aB g y0 500 tp)] H := hP
        have hD : va_D A [(aI g z1 3 nj), (aI g p1 24 sj), (aI g p2 10 fj2), (aI g p3 6 tj), (aI g p4 6 mj), (oX6 p0 p1 p2 p3 p4 (nI wj)), (oX7 z0 y0 (nI n) (nI (rn isBl T n kj)) 0 (-1) z1), (aB g y0 500 tp)] := hD
        have hrn9 : rn isBl T n kj ≤ n := rn_le hkn
        refine lv_aload_n hx hb dX7_read_46 rfl (lv_at hl 0 rfl) ?_
        refine va_get (v := .int (nI (rn isBl T n kj))) (T := TX7) (N := 6) hx hb hts inX7 hown hK hP 6 rfl rfl 2 (by decide) f32 (fun _ h9 => h9) rfl dX7_read_47 ?_
        refine lv_aload_n hx hb dX7_read_50 rfl (lv_at hl 0 rfl) ?_
        refine va_get (v := .int (nI n)) (T := TX7) (N := 6) hx hb hts inX7 hown hK hP 6 rfl rfl 1 (by decide) f29 (fun _ h9 => h9) rfl dX7_read_51 ?_
        refine lv_icmp_ge (tgt := 76) hx hb dX7_read_54 (by decide) (fun c_10 => ?_) (fun c_10 => ?_)
        · have k_11 : n ≤ rn isBl T n kj := (he_cle (a := n) (b := rn isBl T n kj) rfl rfl (by omega) (by omega)).mp c_10
          refine lv_aload_n hx hb dX7_read_76 rfl (lv_at hl 0 rfl) ?_
          refine va_get (v := .int 0) (T := TX7) (N := 6) hx hb hts inX7 hown hK hP 6 rfl rfl 3 (by decide) f35 (fun _ h9 => h9) rfl dX7_read_77 ?_
          have hP := hP.sub (ws' := [(oX7 z0 y0 (nI n) (nI (rn isBl T n kj)) 0 (-1) z1), (aB g y0 500 tp), (aI g z1 3 nj), (oX6 p0 p1 p2 p3 p4 (nI wj)), (aI g p1 24 sj), (aI g p2 10 fj2), (aI g p3 6 tj), (aI g p4 6 mj)]) [6, 7, 0, 5, 1, 2, 3, 4] rfl
          have hD := hD.sub (ws' := [(oX7 z0 y0 (nI n) (nI (rn isBl T n kj)) 0 (-1) z1), (aB g y0 500 tp), (aI g z1 3 nj), (oX6 p0 p1 p2 p3 p4 (nI wj)), (aI g p1 24 sj), (aI g p2 10 fj2), (aI g p3 6 tj), (aI g p4 6 mj)]) [6, 7, 0, 5, 1, 2, 3, 4] (by decide) rfl
          exact he_ri hQ hx hb hr hlk hP hD hS dX7_read_80 (Nat.le_of_ble_eq_true rfl) (Nat.le_of_ble_eq_true rfl) ((rn isBl T n kj, 0, (-1), nj, wj, sj, fj2, tj, mj)) (rfl) ((by have e9 : (txP T n wl6 bd6 fl6 (61 - j) j wj kj) = (none, []) := tx_e (by (try dsimp only); omega); rw [e9] at hX1 hXuw hXud hXun hXut hXum; exact ⟨rfl, by rw [← hX1]; rfl, by rw [← hX1]; rfl, hXuw, hXud, hXun, hXut, hXum, hwj⟩))
        · have k_12 : ¬ (n ≤ rn isBl T n kj) := fun h9 => c_10 ((he_cle (a := n) (b := rn isBl T n kj) rfl rfl (by omega) (by omega)).mpr h9)
          have hlt9 : rn isBl T n kj < n := by omega
          refine lv_aload_n hx hb dX7_read_57 rfl (lv_at hl 0 rfl) ?_
          refine lv_aload_n hx hb dX7_read_58 rfl (lv_at hl 1 rfl) ?_
          refine lv_iload hx hb dX7_read_59 (lv_at hl 2 rfl) ?_
          refine he_ci (wc := [(oX7 z0 y0 (nI n) (nI (rn isBl T n kj)) 0 (-1) z1), (aB g y0 500 tp), (aI g z1 3 nj), (oX6 p0 p1 p2 p3 p4 (nI wj)), (aI g p1 24 sj), (aI g p2 10 fj2), (aI g p3 6 tj), (aI g p4 6 mj)]) (wr := []) (va_runV (As := [.ref p0, .int (nI j)]) (rest := []) ⟨hx, hb, hml, hown, hts⟩ (p_X7_readPart6 l g z0 z1 y0 n (rn isBl T n kj) 0 (-1) tp T nj p0 p1 p2 p3 p4 wj sj fj2 tj mj j (rn_le hkn) (by first | assumption | decide | omega) (by first | assumption | decide | omega) (by first | assumption | decide | omega) (by omega) H.size) (cwV 2 hts gX7_read_X7_readPart rfl rfl rfl (by decide +kernel) ⟨Nat.le_of_ble_eq_true rfl, Nat.le_of_ble_eq_true rfl⟩) (he_preV (wc := [(oX7 z0 y0 (nI n) (nI (rn isBl T n kj)) 0 (-1) z1), (aB g y0 500 tp), (aI g z1 3 nj), (oX6 p0 p1 p2 p3 p4 (nI wj)), (aI g p1 24 sj), (aI g p2 10 fj2), (aI g p3 6 tj), (aI g p4 6 mj)]) hK hP hD hS hA hE [6, 7, 0, 5, 1, 2, 3, 4] rfl rfl 6 rfl rfl) rfl rfl hl.1 rfl (lv_room (Nat.le_of_ble_eq_true rfl)) dX7_read_61 ⟨(Nat.le_of_ble_eq_true rfl), (Nat.le_of_ble_eq_true rfl)⟩) hP hD hS hA [6, 7, 0, 5, 1, 2, 3, 4] [] rfl rfl rfl (by decide) (fun r_13 u_14 H locs h_15 hP hD hS => ?_)
          obtain ⟨k2_16, fb_17, pb_18, nv_19, uw_20, ud_21, un_22, ut_23, um_24⟩ := u_14
          try dsimp only at h_15
          obtain ⟨hf_25, hf_26⟩ := h_15
          have hP : va_P g.1 vwCl [(oX7 z0 y0 (nI n) (nI k2_16) fb_17 pb_18 z1), (aB g y0 500 tp), (aI g z1 3 nv_19), (oX6 p0 p1 p2 p3 p4 (nI uw_20)), (aI g p1 24 ud_21), (aI g p2 10 un_22), (aI g p3 6 ut_23), (aI g p4 6 um_24)] H := hP
          have hD : va_D A [(oX7 z0 y0 (nI n) (nI k2_16) fb_17 pb_18 z1), (aB g y0 500 tp), (aI g z1 3 nv_19), (oX6 p0 p1 p2 p3 p4 (nI uw_20)), (aI g p1 24 ud_21), (aI g p2 10 un_22), (aI g p3 6 ut_23), (aI g p4 6 um_24)] := hD
          have hk2 := hf_25
          rcases hf_26 with ⟨c9, p9, hp1, hr9, hf9, hp9, hu0, hu1, hu2, hu3, hu4⟩ | ⟨q9, vs, hp1, hp2, hr9, hf9, hp9, hu0, hu1, hu2, hu3, hu4⟩
          · subst k2_16 r_13 fb_17 pb_18 uw_20 ud_21 un_22 ut_23 um_24
            have hP : va_P g.1 vwCl [(oX7 z0 y0 (nI n) (nI ((ptS T n wl6 bd6 (fl6 j wj) (rn isBl T n kj)).2.1)) (nI c9) (nI p9) z1), (aB g y0 500 tp), (aI g z1 3 nv_19), (oX6 p0 p1 p2 p3 p4 (nI wj)), (aI g p1 24 sj), (aI g p2 10 fj2), (aI g p3 6 tj), (aI g p4 6 mj)] H := hP
            have hD : va_D A [(oX7 z0 y0 (nI n) (nI ((ptS T n wl6 bd6 (fl6 j wj) (rn isBl T n kj)).2.1)) (nI c9) (nI p9) z1), (aB g y0 500 tp), (aI g z1 3 nv_19), (oX6 p0 p1 p2 p3 p4 (nI wj)), (aI g p1 24 sj), (aI g p2 10 fj2), (aI g p3 6 tj), (aI g p4 6 mj)] := hD
            refine lv_if_ne (tgt := 70) hx hb dX7_read_64 (by decide) (fun c_27 => ?_) (fun c_27 => ?_)
            · exact absurd (by decide) c_27
            · refine lv_goto (tgt := 76) hx hb dX7_read_67 (by decide) ?_
              refine lv_aload_n hx hb dX7_read_76 rfl (lv_at hl 0 rfl) ?_
              refine va_get (v := .int (nI c9)) (T := TX7) (N := 6) hx hb hts inX7 hown hK hP 0 rfl rfl 3 (by decide) f35 (fun _ h9 => h9) rfl dX7_read_77 ?_
              exact he_ri hQ hx hb hr hlk hP hD hS dX7_read_80 (Nat.le_of_ble_eq_true rfl) (Nat.le_of_ble_eq_true rfl) ((((ptS T n wl6 bd6 (fl6 j wj) (rn isBl T n kj)).2.1), nI c9, nI p9, nv_19, wj, sj, fj2, tj, mj)) (rfl) ((by have e9 : (txP T n wl6 bd6 fl6 (61 - j) j wj kj) = (some (c9, p9), []) := (by (try dsimp only); rw [tx_s j 61 (by (try dsimp only); omega)]; exact tx_f hlt9 hp1); rw [e9] at hX1 hXuw hXud hXun hXut hXum; exact ⟨rfl, by rw [← hX1]; rfl, by rw [← hX1]; rfl, hXuw, hXud, hXun, hXut, hXum, hwj⟩))
          · subst k2_16 r_13 fb_17 pb_18 uw_20 ud_21 un_22 ut_23 um_24
            obtain ⟨_, _, hq8, _, hq9⟩ := pt_q hp2
            have e9 := tx_o (full := fl6) (b := j) (w := wj) (f := 61 - (j + 1)) hlt9 hp1 hp2
            rw [← tx_s j 61 (by omega)] at e9
            rw [e9] at hX1 hXuw hXud hXun hXut hXum
            have hP : va_P g.1 vwCl [(oX7 z0 y0 (nI n) (nI ((ptS T n wl6 bd6 (fl6 j wj) (rn isBl T n kj)).2.1)) 0 (-1) z1), (aB g y0 500 tp), (aI g z1 3 nv_19), (oX6 p0 p1 p2 p3 p4 (nI (stW q9 wj))), (aI g p1 24 (stD q9 vs sj)), (aI g p2 10 (stN q9 vs fj2)), (aI g p3 6 (stT q9 vs wj tj)), (aI g p4 6 (stM q9 vs wj mj))] H := hP
            have hD : va_D A [(oX7 z0 y0 (nI n) (nI ((ptS T n wl6 bd6 (fl6 j wj) (rn isBl T n kj)).2.1)) 0 (-1) z1), (aB g y0 500 tp), (aI g z1 3 nv_19), (oX6 p0 p1 p2 p3 p4 (nI (stW q9 wj))), (aI g p1 24 (stD q9 vs sj)), (aI g p2 10 (stN q9 vs fj2)), (aI g p3 6 (stT q9 vs wj tj)), (aI g p4 6 (stM q9 vs wj mj))] := hD
            refine lv_if_ne (tgt := 70) hx hb dX7_read_64 (by decide) (fun c_28 => ?_) (fun c_28 => ?_)
            · refine lv_iinc (v := nI (j + 1)) (lv' := [(4, .int (nI (j + 1))), (0, .ref z0), (3, .ref p0)]) hx hb dX7_read_70 hl (k := 2) rfl (nI_1 j) (by decide) rfl (fun ls hl => ?_)
              refine lv_goto (tgt := 33) hx hb dX7_read_73 (by decide) ?_
              exact ih33 (j + 1) ((ptS T n wl6 bd6 (fl6 j wj) (rn isBl T n kj)).2.1) nv_19 (stW q9 wj) (stD q9 vs sj) (stN q9 vs fj2) (stT q9 vs wj tj) (stM q9 vs wj mj) (by omega) (by omega) hq9 (fl6_w hq8 hwj) hX1 hXuw hXud hXun hXut hXum _ _ _ hP hD hS (lv_sub hl [1, 2, 0] rfl)
            · exact absurd c_28 (by decide)
  exact loop33 ((61 - 0) + 1) 0 0 nu w sd fn st me (Nat.lt_succ_self _) (Nat.zero_le _) (Nat.zero_le _) hw6 rfl rfl rfl rfl rfl rfl _ _ _ hP hD hS (lv_sub hl [1, 4, 0] rfl)
set_option maxHeartbeats 4000000 in
set_option maxRecDepth 100000 in
theorem p_X7_read5 (l : Launch) (g : he_G) (z0 : Nat) (z1 : Nat) (y0 : Nat) (n : Nat) (y1 : Nat) (n1 : Int32) (at1 : Int32) (fa : Int32) (pl : Int32) (tp : Nat → Int32) (T : Nat → Nat) (nu : Nat → Int32) (t0 : Nat) (t1 : Nat) (t2 : Nat) (w : Nat) (pd : Nat → Int32) (wb : Nat → Int32) (hn : n ≤ 500) (hw6 : w ≤ 6) (hT : ∀ j, j < n → T j < 256 ∧ tp j = sbI (T j)) : he_I l yX7_read wsX7_read 7 161 0 0 g [.ref z0, .ref y0, .int (nI n), .ref t0] [(oX7 z0 y1 n1 at1 fa pl z1), (aB g y0 500 tp), (aI g z1 3 nu), (oX5 t0 t1 t2 (nI w)), (aI g t1 6 pd), (aI g t2 36 wb)] (fun (r : Int32) (u : Nat × Int32 × Int32 × (Nat → Int32) × (Nat → Int32) × (Nat → Int32)) => r = u.2.1 ∧ (u.2.1 = faC (txP T n wl5 (bd5 w) (fun b _ => fl5 b) 21 0 0 0).1) ∧ (u.2.2.1 = faP (txP T n wl5 (bd5 w) (fun b _ => fl5 b) 21 0 0 0).1) ∧ (u.2.2.2.2.1 = fdRl (txP T n wl5 (bd5 w) (fun b _ => fl5 b) 21 0 0 0).2 pd) ∧ (u.2.2.2.2.2 = fdB (txP T n wl5 (bd5 w) (fun b _ => fl5 b) 21 0 0 0).2 wb)) (fun (u : Nat × Int32 × Int32 × (Nat → Int32) × (Nat → Int32) × (Nat → Int32)) => [(oX7 z0 y0 (nI n) (nI u.1) u.2.1 u.2.2.1 z1), (aB g y0 500 tp), (aI g z1 3 u.2.2.2.1), (oX5 t0 t1 t2 (nI w)), (aI g t1 6 u.2.2.2.2.1), (aI g t2 36 u.2.2.2.2.2)]) := by
  refine he_begin (l := l) (g := g) (y := yX7_read) (wl := wsX7_read) (fr := 7) (lo := 161) (mc := 0) (ms := 0) (av := [.ref z0, .ref y0, .int (nI n), .ref t0]) (ws := [(oX7 z0 y1 n1 at1 fa pl z1), (aB g y0 500 tp), (aI g z1 3 nu), (oX5 t0 t1 t2 (nI w)), (aI g t1 6 pd), (aI g t2 36 wb)]) (cc := cX7_read) (maxL := 5) (ret := (some .int)) (fun A => va_Qi (fun (r : Int32) (u : Nat × Int32 × Int32 × (Nat → Int32) × (Nat → Int32) × (Nat → Int32)) => r = u.2.1 ∧ (u.2.1 = faC (txP T n wl5 (bd5 w) (fun b _ => fl5 b) 21 0 0 0).1) ∧ (u.2.2.1 = faP (txP T n wl5 (bd5 w) (fun b _ => fl5 b) 21 0 0 0).1) ∧ (u.2.2.2.2.1 = fdRl (txP T n wl5 (bd5 w) (fun b _ => fl5 b) 21 0 0 0).2 pd) ∧ (u.2.2.2.2.2 = fdB (txP T n wl5 (bd5 w) (fun b _ => fl5 b) 21 0 0 0).2 wb)) (fun u t => he_post g A ((fun (u : Nat × Int32 × Int32 × (Nat → Int32) × (Nat → Int32) × (Nat → Int32)) => [(oX7 z0 y0 (nI n) (nI u.1) u.2.1 u.2.2.1 z1), (aB g y0 500 tp), (aI g z1 3 u.2.2.2.1), (oX5 t0 t1 t2 (nI w)), (aI g t1 6 u.2.2.2.2.1), (aI g t2 36 u.2.2.2.2.2)]) u) t) A) (by decide) rfl (Nat.le_of_ble_eq_true rfl) ?_
  intro p e s m args below meth c A ls H locs Q hQ hB
  obtain ⟨hx, hb, hr, hml, hown, hts, hlk, hin, hP, hK, hD, hS, hA, hE, hl⟩ := hB
  have hl : lv_has ls 5 [(0, .ref z0), (1, .ref y0), (2, .int (nI n)), (3, .ref t0)] := hl
  have f9 := hts (.fieldLink RX7 9 "HiredEnemy$Reader" "bytes" "[B") (iwoX7_read (k := 0) rfl)
  have inX7 : ∀ w ∈ wsX70, w ∈ wsX7_read := innX7_read_X7
  have ml23 := hts (.methodLink RX7 23 Lib.Math.min.name) (iwoX7_read (k := 1) rfl)
  have msmin := hts (.static Lib.Math.min.name) (iwoX7_read (k := 2) rfl)
  have mi := hts (.initialized "java/lang/Math") (iwoX7_read (k := 3) rfl)
  have mcmin := hts (.code Lib.Math.min.name Lib.Math.min.code 2 (some .int)) (by decide +kernel)
  have f29 := hts (.fieldLink RX7 29 "HiredEnemy$Reader" "length" "I") (iwoX7_read (k := 4) rfl)
  have f32 := hts (.fieldLink RX7 32 "HiredEnemy$Reader" "at" "I") (iwoX7_read (k := 5) rfl)
  have f35 := hts (.fieldLink RX7 35 "HiredEnemy$Reader" "fault" "I") (iwoX7_read (k := 6) rfl)
  have f15 := hts (.fieldLink RX7 15 "HiredEnemy$Reader" "place" "I") (iwoX7_read (k := 7) rfl)
  have dc38 := hE.decl ⟨RX9, "mostParts", "()I"⟩ (by decide +kernel)
  refine lv_aload_n hx hb dX7_read_0 rfl (lv_at hl 0 rfl) ?_
  refine lv_aload_n hx hb dX7_read_1 rfl (lv_at hl 1 rfl) ?_
  refine va_put (v := .ref y0) (ty := tyX7 0) (T := TX7) (N := 6) hx hb hts inX7 tyX7 tyX7_ok nmX7 hown hK hP hD hS 0 rfl rfl 0 (by decide) f9 (fun _ h9 => h9) rfl (by decide +kernel) rfl rfl (Nat.le_of_ble_eq_true rfl) dX7_read_2 (fun H locs hP hD hS => ?_)
  have hP : va_P g.1 vwCl [(oX7 z0 y0 n1 at1 fa pl z1), (aB g y0 500 tp), (aI g z1 3 nu), (oX5 t0 t1 t2 (nI w)), (aI g t1 6 pd), (aI g t2 36 wb)] H := hP
  have hD : va_D A [(oX7 z0 y0 n1 at1 fa pl z1), (aB g y0 500 tp), (aI g z1 3 nu), (oX5 t0 t1 t2 (nI w)), (aI g t1 6 pd), (aI g t2 36 wb)] := hD
  refine lv_aload_n hx hb dX7_read_5 rfl (lv_at hl 0 rfl) ?_
  refine lv_iload_n hx hb dX7_read_6 rfl (lv_at hl 2 rfl) ?_
  refine lv_aload_n hx hb dX7_read_7 rfl (lv_at hl 1 rfl) ?_
  refine va_alen (v := 500) hx hb hK hP 1 0 rfl rfl rfl dX7_read_8 ?_
  refine va_mmin hx hb (by rw [hml]; exact hl.1.symm) hown ml23 msmin mi mcmin (by decide) (Nat.le_of_ble_eq_true rfl) (Nat.le_of_ble_eq_true rfl) (Nat.le_of_ble_eq_true rfl) dX7_read_9 ?_
  refine he_top (nI n) (he_min500 hn) ?_
  refine va_put (v := .int (nI n)) (ty := .int) (T := TX7) (N := 6) hx hb hts inX7 tyX7 tyX7_ok nmX7 hown hK hP hD hS 0 rfl rfl 1 (by decide) f29 (fun _ h9 => h9) rfl (by decide +kernel) rfl rfl (Nat.le_of_ble_eq_true rfl) dX7_read_12 (fun H locs hP hD hS => ?_)
  have hP : va_P g.1 vwCl [(oX7 z0 y0 (nI n) at1 fa pl z1), (aB g y0 500 tp), (aI g z1 3 nu), (oX5 t0 t1 t2 (nI w)), (aI g t1 6 pd), (aI g t2 36 wb)] H := hP
  have hD : va_D A [(oX7 z0 y0 (nI n) at1 fa pl z1), (aB g y0 500 tp), (aI g z1 3 nu), (oX5 t0 t1 t2 (nI w)), (aI g t1 6 pd), (aI g t2 36 wb)] := hD
  refine lv_aload_n hx hb dX7_read_15 rfl (lv_at hl 0 rfl) ?_
  refine lv_iconst (v := 0) hx hb dX7_read_16 (by decide) ?_
  refine va_put (v := .int 0) (ty := .int) (T := TX7) (N := 6) hx hb hts inX7 tyX7 tyX7_ok nmX7 hown hK hP hD hS 0 rfl rfl 2 (by decide) f32 (fun _ h9 => h9) rfl (by decide +kernel) rfl rfl (Nat.le_of_ble_eq_true rfl) dX7_read_17 (fun H locs hP hD hS => ?_)
  have hP : va_P g.1 vwCl [(oX7 z0 y0 (nI n) 0 fa pl z1), (aB g y0 500 tp), (aI g z1 3 nu), (oX5 t0 t1 t2 (nI w)), (aI g t1 6 pd), (aI g t2 36 wb)] H := hP
  have hD : va_D A [(oX7 z0 y0 (nI n) 0 fa pl z1), (aB g y0 500 tp), (aI g z1 3 nu), (oX5 t0 t1 t2 (nI w)), (aI g t1 6 pd), (aI g t2 36 wb)] := hD
  refine lv_aload_n hx hb dX7_read_20 rfl (lv_at hl 0 rfl) ?_
  refine lv_iconst (v := 0) hx hb dX7_read_21 (by decide) ?_
  refine va_put (v := .int 0) (ty := .int) (T := TX7) (N := 6) hx hb hts inX7 tyX7 tyX7_ok nmX7 hown hK hP hD hS 0 rfl rfl 3 (by decide) f35 (fun _ h9 => h9) rfl (by decide +kernel) rfl rfl (Nat.le_of_ble_eq_true rfl) dX7_read_22 (fun H locs hP hD hS => ?_)
  have hP : va_P g.1 vwCl [(oX7 z0 y0 (nI n) 0 0 pl z1), (aB g y0 500 tp), (aI g z1 3 nu), (oX5 t0 t1 t2 (nI w)), (aI g t1 6 pd), (aI g t2 36 wb)] H := hP
  have hD : va_D A [(oX7 z0 y0 (nI n) 0 0 pl z1), (aB g y0 500 tp), (aI g z1 3 nu), (oX5 t0 t1 t2 (nI w)), (aI g t1 6 pd), (aI g t2 36 wb)] := hD
  refine lv_aload_n hx hb dX7_read_25 rfl (lv_at hl 0 rfl) ?_
  refine lv_iconst (v := (-1)) hx hb dX7_read_26 (by decide) ?_
  refine va_put (v := .int (-1)) (ty := .int) (T := TX7) (N := 6) hx hb hts inX7 tyX7 tyX7_ok nmX7 hown hK hP hD hS 0 rfl rfl 4 (by decide) f15 (fun _ h9 => h9) rfl (by decide +kernel) rfl rfl (Nat.le_of_ble_eq_true rfl) dX7_read_27 (fun H locs hP hD hS => ?_)
  have hP : va_P g.1 vwCl [(oX7 z0 y0 (nI n) 0 0 (-1) z1), (aB g y0 500 tp), (aI g z1 3 nu), (oX5 t0 t1 t2 (nI w)), (aI g t1 6 pd), (aI g t2 36 wb)] H := hP
  have hD : va_D A [(oX7 z0 y0 (nI n) 0 0 (-1) z1), (aB g y0 500 tp), (aI g z1 3 nu), (oX5 t0 t1 t2 (nI w)), (aI g t1 6 pd), (aI g t2 36 wb)] := hD
  refine lv_iconst (v := 0) hx hb dX7_read_30 (by decide) ?_
  refine lv_istore (lv' := [(4, .int 0), (0, .ref z0), (1, .ref y0), (2, .int (nI n)), (3, .ref t0)]) hx hb dX7_read_31 hl (by decide) rfl (fun ls hl => ?_)
  have loop33 : ∀ (n9 : Nat) (j : Nat) (kj : Nat) (nj : Nat → Int32) (wj : Nat) (dj : Nat → Int32) (bj : Nat → Int32), 21 - j < n9 → (j ≤ 21) → (kj ≤ n) → ((txP T n wl5 (bd5 w) (fun b _ => fl5 b) (21 - j) j wj kj).1 = (txP T n wl5 (bd5 w) (fun b _ => fl5 b) 21 0 0 0).1) → (fdRl (txP T n wl5 (bd5 w) (fun b _ => fl5 b) (21 - j) j wj kj).2 dj = fdRl (txP T n wl5 (bd5 w) (fun b _ => fl5 b) 21 0 0 0).2 pd) → (fdB (txP T n wl5 (bd5 w) (fun b _ => fl5 b) (21 - j) j wj kj).2 bj = fdB (txP T n wl5 (bd5 w) (fun b _ => fl5 b) 21 0 0 0).2 wb) → ∀ (H : Heap) (locs : List Loc) (ls : Array Slot), va_P g.1 vwCl [(oX7 z0 y0 (nI n) (nI kj) 0 (-1) z1), (aB g y0 500 tp), (aI g z1 3 nj), (oX5 t0 t1 t2 (nI w)), (aI g t1 6 dj), (aI g t2 36 bj)] H → va_D A [(oX7 z0 y0 (nI n) (nI kj) 0 (-1) z1), (aB g y0 500 tp), (aI g z1 3 nj), (oX5 t0 t1 t2 (nI w)), (aI g t1 6 dj), (aI g t2 36 bj)] → va_S A s.heap H locs → lv_has ls 5 [(0, .ref z0), (3, .ref t0), (4, .int (nI j))] → W p l e (he_room 7 161 0 0) s m args below meth c H locs 0 0 Q (F0 m 33 ls []) := by
    intro n9
    induction n9 with
    | zero => intro j kj nj wj dj bj hm9; exact absurd hm9 (Nat.not_lt_zero _)
    | succ n9 ih33 =>
      intro j kj nj wj dj bj hm9 hj hkn hX1 hXud hXub H locs ls hP hD hS hl
      refine lv_iload hx hb dX7_read_33 (lv_at hl 2 rfl) ?_
      refine lv_aload_n hx hb dX7_read_35 rfl (lv_at hl 1 rfl) ?_
      refine he_ci (wc := [(oX5 t0 t1 t2 (nI w))]) (wr := [(oX7 z0 y0 (nI n) (nI kj) 0 (-1) z1), (aB g y0 500 tp), (aI g z1 3 nj), (aI g t1 6 dj), (aI g t2 36 bj)]) (va_runU (As := []) (rest := [.int (nI j)]) ⟨hx, hb, hml, hown, hts⟩ (c_X5_mostParts l g t0 t1 t2 (nI w) H.size) (va_cwA 0 hts gX7_read_X5_mostParts_u38X5 rfl rfl rfl dc38 (by decide +kernel) ⟨Nat.le_of_ble_eq_true rfl, Nat.le_of_ble_eq_true rfl⟩) (he_preV (wc := [(oX5 t0 t1 t2 (nI w))]) hK hP hD hS hA hE [3] rfl rfl 3 rfl rfl) rfl rfl hl.1 rfl (lv_room (Nat.le_of_ble_eq_true rfl)) dX7_read_36 ⟨(Nat.le_of_ble_eq_true rfl), (Nat.le_of_ble_eq_true rfl)⟩) hP hD hS hA [3] [0, 1, 2, 4, 5] rfl rfl rfl (by decide) (fun r_1 u_2 H locs h_3 hP hD hS => ?_)
      subst h_3
      have hP : va_P g.1 vwCl [(oX7 z0 y0 (nI n) (nI kj) 0 (-1) z1), (aB g y0 500 tp), (aI g z1 3 nj), (aI g t1 6 dj), (aI g t2 36 bj), (oX5 t0 t1 t2 (nI w))] H := hP
      have hD : va_D A [(oX7 z0 y0 (nI n) (nI kj) 0 (-1) z1), (aB g y0 500 tp), (aI g z1 3 nj), (aI g t1 6 dj), (aI g t2 36 bj), (oX5 t0 t1 t2 (nI w))] := hD
      refine lv_icmp_gt (tgt := 76) hx hb dX7_read_39 (by decide) (fun c_4 => ?_) (fun c_4 => ?_)
      · have k_5 : 20 < j := (he_clt (a := 20) (b := j) (by decide) rfl (by omega) (by omega)).mp c_4
        refine lv_aload_n hx hb dX7_read_76 rfl (lv_at hl 0 rfl) ?_
        refine va_get (v := .int 0) (T := TX7) (N := 6) hx hb hts inX7 hown hK hP 0 rfl rfl 3 (by decide) f35 (fun _ h9 => h9) rfl dX7_read_77 ?_
        have hP := hP.sub (ws' := [(oX7 z0 y0 (nI n) (nI kj) 0 (-1) z1), (aB g y0 500 tp), (aI g z1 3 nj), (oX5 t0 t1 t2 (nI w)), (aI g t1 6 dj), (aI g t2 36 bj)]) [0, 1, 2, 5, 3, 4] rfl
        have hD := hD.sub (ws' := [(oX7 z0 y0 (nI n) (nI kj) 0 (-1) z1), (aB g y0 500 tp), (aI g z1 3 nj), (oX5 t0 t1 t2 (nI w)), (aI g t1 6 dj), (aI g t2 36 bj)]) [0, 1, 2, 5, 3, 4] (by decide) rfl
        exact he_ri hQ hx hb hr hlk hP hD hS dX7_read_80 (Nat.le_of_ble_eq_true rfl) (Nat.le_of_ble_eq_true rfl) ((kj, 0, (-1), nj, dj, bj)) (rfl) ((by have e9 : (txP T n wl5 (bd5 w) (fun b _ => fl5 b) (21 - j) j wj kj) = (none, []) := (by (try dsimp only); rw [show 21 - j = 0 by (try dsimp only); omega]; rfl); rw [e9] at hX1 hXud hXub; exact ⟨rfl, by rw [← hX1]; rfl, by rw [← hX1]; rfl, hXud, hXub⟩))
      · have k_6 : ¬ (20 < j) := fun h9 => c_4 ((he_clt (a := 20) (b := j) (by decide) rfl (by omega) (by omega)).mpr h9)
        refine lv_aload_n hx hb dX7_read_42 rfl (lv_at hl 0 rfl) ?_
        refine he_cv (wc := [(oX7 z0 y0 (nI n) (nI kj) 0 (-1) z1), (aB g y0 500 tp)]) (wr := [(aI g z1 3 nj), (aI g t1 6 dj), (aI g t2 36 bj), (oX5 t0 t1 t2 (nI w))]) (va_runV (As := []) (rest := []) ⟨hx, hb, hml, hown, hts⟩ (p_X7_skipBlanks l g z0 z1 y0 n kj 0 (-1) tp T (by first | assumption | decide | omega) (by first | assumption | decide | omega) (by first | assumption | decide | omega) H.size) (cwV 0 hts gX7_read_X7_skipBlanks rfl rfl rfl (by decide +kernel) ⟨Nat.le_of_ble_eq_true rfl, Nat.le_of_ble_eq_true rfl⟩) (he_preV (wc := [(oX7 z0 y0 (nI n) (nI kj) 0 (-1) z1), (aB g y0 500 tp)]) hK hP hD hS hA hE [0, 1] rfl rfl 0 rfl rfl) rfl rfl hl.1 rfl (lv_room (Nat.le_of_ble_eq_true rfl)) dX7_read_43 ⟨(Nat.le_of_ble_eq_true rfl), (Nat.le_of_ble_eq_true rfl)⟩) hP hD hS hA [0, 1] [2, 3, 4, 5] rfl rfl rfl (by decide) (fun u_8 H locs h_9 hP hD hS => ?_)
        have hP : va_P g.1 vwCl [(aI g z1 3 nj), (aI g t1 6 dj), (aI g t2 36 bj), (oX5 t0 t1 t2 (nI w)), (oX7 z0 y0 (nI n) (nI (rn isBl T n kj)) 0 (-1) z1), (aB g y0 500 tp)] H := hP
        have hD : va_D A [(aI g z1 3 nj), (aI g t1 6 dj), (aI g t2 36 bj), (oX5 t0 t1 t2 (nI w)), (oX7 z0 y0 (nI n) (nI (rn isBl T n kj)) 0 (-1) z1), (aB g y0 500 tp)] := hD
        have hrn9 : rn isBl T n kj ≤ n := rn_le hkn
        refine lv_aload_n hx hb dX7_read_46 rfl (lv_at hl 0 rfl) ?_
        refine va_get (v := .int (nI (rn isBl T n kj))) (T := TX7) (N := 6) hx hb hts inX7 hown hK hP 4 rfl rfl 2 (by decide) f32 (fun _ h9 => h9) rfl dX7_read_47 ?_
        refine lv_aload_n hx hb dX7_read_50 rfl (lv_at hl 0 rfl) ?_
        refine va_get (v := .int (nI n)) (T := TX7) (N := 6) hx hb hts inX7 hown hK hP 4 rfl rfl 1 (by decide) f29 (fun _ h9 => h9) rfl dX7_read_51 ?_
        refine lv_icmp_ge (tgt := 76) hx hb dX7_read_54 (by decide) (fun c_10 => ?_) (fun c_10 => ?_)
        · have k_11 : n ≤ rn isBl T n kj := (he_cle (a := n) (b := rn isBl T n kj) rfl rfl (by omega) (by omega)).mp c_10
          refine lv_aload_n hx hb dX7_read_76 rfl (lv_at hl 0 rfl) ?_
          refine va_get (v := .int 0) (T := TX7) (N := 6) hx hb hts inX7 hown hK hP 4 rfl rfl 3 (by decide) f35 (fun _ h9 => h9) rfl dX7_read_77 ?_
          have hP := hP.sub (ws' := [(oX7 z0 y0 (nI n) (nI (rn isBl T n kj)) 0 (-1) z1), (aB g y0 500 tp), (aI g z1 3 nj), (oX5 t0 t1 t2 (nI w)), (aI g t1 6 dj), (aI g t2 36 bj)]) [4, 5, 0, 3, 1, 2] rfl
          have hD := hD.sub (ws' := [(oX7 z0 y0 (nI n) (nI (rn isBl T n kj)) 0 (-1) z1), (aB g y0 500 tp), (aI g z1 3 nj), (oX5 t0 t1 t2 (nI w)), (aI g t1 6 dj), (aI g t2 36 bj)]) [4, 5, 0, 3, 1, 2] (by decide) rfl
          exact he_ri hQ hx hb hr hlk hP hD hS dX7_read_80 (Nat.le_of_ble_eq_true rfl) (Nat.le_of_ble_eq_true rfl) ((rn isBl T n kj, 0, (-1), nj, dj, bj)) (rfl) ((by have e9 : (txP T n wl5 (bd5 w) (fun b _ => fl5 b) (21 - j) j wj kj) = (none, []) := tx_e (by (try dsimp only); omega); rw [e9] at hX1 hXud hXub; exact ⟨rfl, by rw [← hX1]; rfl, by rw [← hX1]; rfl, hXud, hXub⟩))
        · have k_12 : ¬ (n ≤ rn isBl T n kj) := fun h9 => c_10 ((he_cle (a := n) (b := rn isBl T n kj) rfl rfl (by omega) (by omega)).mpr h9)
          have hlt9 : rn isBl T n kj < n := by omega
          refine lv_aload_n hx hb dX7_read_57 rfl (lv_at hl 0 rfl) ?_
          refine lv_aload_n hx hb dX7_read_58 rfl (lv_at hl 1 rfl) ?_
          refine lv_iload hx hb dX7_read_59 (lv_at hl 2 rfl) ?_
          refine he_ci (wc := [(oX7 z0 y0 (nI n) (nI (rn isBl T n kj)) 0 (-1) z1), (aB g y0 500 tp), (aI g z1 3 nj), (oX5 t0 t1 t2 (nI w)), (aI g t1 6 dj), (aI g t2 36 bj)]) (wr := []) (va_runV (As := [.ref t0, .int (nI j)]) (rest := []) ⟨hx, hb, hml, hown, hts⟩ (p_X7_readPart5 l g z0 z1 y0 n (rn isBl T n kj) 0 (-1) tp T nj t0 t1 t2 w dj bj j (rn_le hkn) (by first | assumption | decide | omega) (by first | assumption | decide | omega) (by first | assumption | decide | omega) (by omega) H.size) (cwV 2 hts gX7_read_X7_readPart rfl rfl rfl (by decide +kernel) ⟨Nat.le_of_ble_eq_true rfl, Nat.le_of_ble_eq_true rfl⟩) (he_preV (wc := [(oX7 z0 y0 (nI n) (nI (rn isBl T n kj)) 0 (-1) z1), (aB g y0 500 tp), (aI g z1 3 nj), (oX5 t0 t1 t2 (nI w)), (aI g t1 6 dj), (aI g t2 36 bj)]) hK hP hD hS hA hE [4, 5, 0, 3, 1, 2] rfl rfl 4 rfl rfl) rfl rfl hl.1 rfl (lv_room (Nat.le_of_ble_eq_true rfl)) dX7_read_61 ⟨(Nat.le_of_ble_eq_true rfl), (Nat.le_of_ble_eq_true rfl)⟩) hP hD hS hA [4, 5, 0, 3, 1, 2] [] rfl rfl rfl (by decide) (fun r_13 u_14 H locs h_15 hP hD hS => ?_)
          obtain ⟨k2_16, fb_17, pb_18, nv_19, ud_20, ub_21⟩ := u_14
          try dsimp only at h_15
          obtain ⟨hf_22, hf_23⟩ := h_15
          have hP : va_P g.1 vwCl [(oX7 z0 y0 (nI n) (nI k2_16) fb_17 pb_18 z1), (aB g y0 500 tp), (aI g z1 3 nv_19), (oX5 t0 t1 t2 (nI w)), (aI g t1 6 ud_20), (aI g t2 36 ub_21)] H := hP
          have hD : va_D A [(oX7 z0 y0 (nI n) (nI k2_16) fb_17 pb_18 z1), (aB g y0 500 tp), (aI g z1 3 nv_19), (oX5 t0 t1 t2 (nI w)), (aI g t1 6 ud_20), (aI g t2 36 ub_21)] := hD
          have hk2 := hf_22
          rcases hf_23 with ⟨c9, p9, hp1, hr9, hf9, hp9, hu0, hu1⟩ | ⟨q9, vs, hp1, hp2, hr9, hf9, hp9, hu0, hu1⟩
          · subst k2_16 r_13 fb_17 pb_18 ud_20 ub_21
            have hP : va_P g.1 vwCl [(oX7 z0 y0 (nI n) (nI ((ptS T n wl5 (bd5 w) (fl5 j) (rn isBl T n kj)).2.1)) (nI c9) (nI p9) z1), (aB g y0 500 tp), (aI g z1 3 nv_19), (oX5 t0 t1 t2 (nI w)), (aI g t1 6 dj), (aI g t2 36 bj)] H := hP
            have hD : va_D A [(oX7 z0 y0 (nI n) (nI ((ptS T n wl5 (bd5 w) (fl5 j) (rn isBl T n kj)).2.1)) (nI c9) (nI p9) z1), (aB g y0 500 tp), (aI g z1 3 nv_19), (oX5 t0 t1 t2 (nI w)), (aI g t1 6 dj), (aI g t2 36 bj)] := hD
            refine lv_if_ne (tgt := 70) hx hb dX7_read_64 (by decide) (fun c_24 => ?_) (fun c_24 => ?_)
            · exact absurd (by decide) c_24
            · refine lv_goto (tgt := 76) hx hb dX7_read_67 (by decide) ?_
              refine lv_aload_n hx hb dX7_read_76 rfl (lv_at hl 0 rfl) ?_
              refine va_get (v := .int (nI c9)) (T := TX7) (N := 6) hx hb hts inX7 hown hK hP 0 rfl rfl 3 (by decide) f35 (fun _ h9 => h9) rfl dX7_read_77 ?_
              exact he_ri hQ hx hb hr hlk hP hD hS dX7_read_80 (Nat.le_of_ble_eq_true rfl) (Nat.le_of_ble_eq_true rfl) ((((ptS T n wl5 (bd5 w) (fl5 j) (rn isBl T n kj)).2.1), nI c9, nI p9, nv_19, dj, bj)) (rfl) ((by have e9 : (txP T n wl5 (bd5 w) (fun b _ => fl5 b) (21 - j) j wj kj) = (some (c9, p9), []) := (by (try dsimp only); rw [tx_s j 21 (by (try dsimp only); omega)]; exact tx_f hlt9 hp1); rw [e9] at hX1 hXud hXub; exact ⟨rfl, by rw [← hX1]; rfl, by rw [← hX1]; rfl, hXud, hXub⟩))
          · subst k2_16 r_13 fb_17 pb_18 ud_20 ub_21
            obtain ⟨_, _, hq8, _, hq9⟩ := pt_q hp2
            have e9 := tx_o (full := (fun b _ => fl5 b)) (b := j) (w := wj) (f := 21 - (j + 1)) hlt9 hp1 hp2
            rw [← tx_s j 21 (by omega)] at e9
            rw [e9] at hX1 hXud hXub
            have hP : va_P g.1 vwCl [(oX7 z0 y0 (nI n) (nI ((ptS T n wl5 (bd5 w) (fl5 j) (rn isBl T n kj)).2.1)) 0 (-1) z1), (aB g y0 500 tp), (aI g z1 3 nv_19), (oX5 t0 t1 t2 (nI w)), (aI g t1 6 (rlD q9 vs dj)), (aI g t2 36 (rlB q9 vs bj))] H := hP
            have hD : va_D A [(oX7 z0 y0 (nI n) (nI ((ptS T n wl5 (bd5 w) (fl5 j) (rn isBl T n kj)).2.1)) 0 (-1) z1), (aB g y0 500 tp), (aI g z1 3 nv_19), (oX5 t0 t1 t2 (nI w)), (aI g t1 6 (rlD q9 vs dj)), (aI g t2 36 (rlB q9 vs bj))] := hD
            refine lv_if_ne (tgt := 70) hx hb dX7_read_64 (by decide) (fun c_25 => ?_) (fun c_25 => ?_)
            · refine lv_iinc (v := nI (j + 1)) (lv' := [(4, .int (nI (j + 1))), (0, .ref z0), (3, .ref t0)]) hx hb dX7_read_70 hl (k := 2) rfl (nI_1 j) (by decide) rfl (fun ls hl => ?_)
              refine lv_goto (tgt := 33) hx hb dX7_read_73 (by decide) ?_
              exact ih33 (j + 1) ((ptS T n wl5 (bd5 w) (fl5 j) (rn isBl T n kj)).2.1) nv_19 (stW q9 wj) (rlD q9 vs dj) (rlB q9 vs bj) (by omega) (by omega) hq9 hX1 hXud hXub _ _ _ hP hD hS (lv_sub hl [1, 2, 0] rfl)
            · exact absurd c_25 (by decide)
  exact loop33 ((21 - 0) + 1) 0 0 nu 0 pd wb (Nat.lt_succ_self _) (Nat.zero_le _) (Nat.zero_le _) rfl rfl rfl _ _ _ hP hD hS (lv_sub hl [1, 4, 0] rfl)
end
section
/-- rows 6 of the contracts and of the breaches alone -/
def mO (r3 r4 r6 : Nat → Nat) (M M2 : Nat → Nat → Int32) : Prop := ∀ a, a ≠ r3 6 → a ≠ r4 6 → M2 a = M a
theorem mO_r (r3 r4 r6 : Nat → Nat) (M : Nat → Nat → Int32) : mO r3 r4 r6 M M := fun _ _ _ => rfl
theorem mO_3 {r3 r4 r6 : Nat → Nat} {M M2 : Nat → Nat → Int32} (h : mO r3 r4 r6 M M2) (f : Nat → Int32) : mO r3 r4 r6 M (va_up M2 (r3 6) f) := fun a h1 h2 => by unfold va_up; rw [if_neg h1]; exact h a h1 h2
theorem mO_4 {r3 r4 r6 : Nat → Nat} {M M2 : Nat → Nat → Int32} (h : mO r3 r4 r6 M M2) (f : Nat → Int32) : mO r3 r4 r6 M (va_up M2 (r4 6) f) := fun a h1 h2 => by unfold va_up; rw [if_neg h2]; exact h a h1 h2
theorem mO_6 {r3 r4 r6 : Nat → Nat} {M M1 M2 : Nat → Nat → Int32} (h : mO r3 r4 r6 M M1) (hx : M2 = M1) : mO r3 r4 r6 M M2 := fun a h1 h2 => by rw [hx]; exact h a h1 h2
/-- the first i of the sixth breach row are none -/
def bN (r4 : Nat → Nat) (M : Nat → Nat → Int32) (i : Nat) : Prop := ∀ b, b < i → M (r4 6) b = -1
theorem bN_s {r4 : Nat → Nat} {M : Nat → Nat → Int32} {i : Nat} (h : bN r4 M i) : bN r4 (va_up M (r4 6) (upd (M (r4 6)) i (-1))) (i + 1) := by
  intro b hb
  unfold va_up
  rw [if_pos rfl]
  unfold upd
  by_cases e : b = i
  · rw [if_pos e]
  · rw [if_neg e]; exact h b (by omega)
theorem bN_ok {r4 : Nat → Nat} {M : Nat → Nat → Int32} (h : bN r4 M 36) : bOk (M (r4 6)) := fun m hm => Or.inl (h m hm)
theorem bN_3 {r3 r4 : Nat → Nat} {M : Nat → Nat → Int32} {i : Nat} (hne : r3 6 ≠ r4 6) (h : bN r4 M i) (f : Nat → Int32) : bN r4 (va_up M (r3 6) f) i := fun b hb => by unfold va_up; rw [if_neg (fun h9 => hne h9.symm)]; exact h b hb
theorem bN_6 {r4 r6 : Nat → Nat} {M M2 : Nat → Nat → Int32} {i : Nat} (hne : ∀ j, j < 120 → r4 6 ≠ r6 j) (hx : mEx r6 120 M M2) (h : bN r4 M i) : bN r4 M2 i := fun b hb => by rw [hx _ hne]; exact h b hb
set_option maxHeartbeats 4000000 in
set_option maxRecDepth 100000 in
theorem h_X11_offer (l : Launch) (g : he_G) (m0 : Nat) (fd : Nat) (rfm : Nat) (rt_ : Nat) (to_ : Nat) (rw_ : Nat) (wa : Nat) (rk : Nat) (rb : Nat) (cn : Nat) (br : Nat) (sm : Nat) (as_ : Nat) (go : Nat) (sh_ : Nat) (ki : Nat) (tg : Nat) (of_ : Nat) (kp : Nat) (rs : Nat) (ta : Int32) (sz_ : Int32) (pl : Int32) (at_ : Int32) (fa : Int32) (fw : Int32) (cs : Int32) (ct : Int32) (ir : Int32) (oa : Int32) (ob : Int32) (th : Int32) (ig : Int32) (sp_ : Int32) (sf : Int32) (tw : Int32) (tl : Nat → Int32) (f : Nat → Int32) (g0 : Nat → Int32) (w : Nat) (L : List Nat) (ln : Nat → Nat) (M : Nat → Nat → Int32) (r2 : Nat → Nat) (r3 : Nat → Nat) (r4 : Nat → Nat) (r6 : Nat → Nat) (mm : Nat) (n : Nat) (wh : Int32) (htl : tl 0 = nI w) (hw6 : w ≤ 6) (h24 : f 24 = nI mm) (hm120 : mm ≤ 120) (hir : ir = 0) (hn1 : 1 ≤ n) (hn2 : n ≤ 60) (hok0 : ¬ he_within wh 0 3 = 0) (F_r2 : ∀ i, i < 6 → r2 i ∈ L ∧ ln (r2 i) = 2 ∧ True) (F_r3 : ∀ i, i < 7 → r3 i ∈ L ∧ ln (r3 i) = 7 ∧ True) (F_r4 : ∀ i, i < 7 → r4 i ∈ L ∧ ln (r4 i) = 36 ∧ True) (F_r6 : ∀ i, i < 120 → r6 i ∈ L ∧ ln (r6 i) = 6 ∧ True) (D_r3_r6 : ∀ i j, i < 7 → j < 120 → r3 i ≠ r6 j) (D_r4_r6 : ∀ i j, i < 7 → j < 120 → r4 i ≠ r6 j) (D_r3_r4 : ∀ i j, i < 7 → j < 7 → r3 i ≠ r4 j) : he_I l yX11_offer wsX11_offer 6 136 0 0 g [.ref m0, .int (nI n), .int wh] ([(oX11 m0 tw ta sz_ pl at_ fa fw cs fd rfm rt_ to_ rw_ wa ct rk rb cn br sm as_ go sh_ ir oa ob th ig sp_ ki tg of_ kp sf rs), (aI g to_ 25 tl), (aI g sm 25 f), (aM g wa 6 (he_ro 6 r2)), (aM g sh_ 120 (he_ro 120 r6)), (aM g cn 7 (he_ro 7 r3)), (aM g br 7 (he_ro 7 r4)), (aI g as_ 25 g0)] ++ he_pl g L ln M) (fun (r : Int32) (u : (Nat → Int32) × (Nat → Int32) × (Nat → Nat → Int32)) => a25 f u.1 ∧ mO r3 r4 r6 M u.2.2) (fun (u : (Nat → Int32) × (Nat → Int32) × (Nat → Nat → Int32)) => [(oX11 m0 0 ta sz_ pl at_ fa fw cs fd rfm rt_ to_ rw_ wa ct rk rb cn br sm as_ go sh_ ir oa ob th ig sp_ ki tg of_ kp sf rs), (aI g to_ 25 tl), (aI g sm 25 u.1), (aM g wa 6 (he_ro 6 r2)), (aM g sh_ 120 (he_ro 120 r6)), (aM g cn 7 (he_ro 7 r3)), (aM g br 7 (he_ro 7 r4)), (aI g as_ 25 u.2.1)] ++ he_pl g L ln u.2.2) := by
  refine he_begin (l := l) (g := g) (y := yX11_offer) (wl := wsX11_offer) (fr := 6) (lo := 136) (mc := 0) (ms := 0) (av := [.ref m0, .int (nI n), .int wh]) (ws := ([(oX11 m0 tw ta sz_ pl at_ fa fw cs fd rfm rt_ to_ rw_ wa ct rk rb cn br sm as_ go sh_ ir oa ob th ig sp_ ki tg of_ kp sf rs), (aI g to_ 25 tl), (aI g sm 25 f), (aM g wa 6 (he_ro 6 r2)), (aM g sh_ 120 (he_ro 120 r6)), (aM g cn 7 (he_ro 7 r3)), (aM g br 7 (he_ro 7 r4)), (aI g as_ 25 g0)] ++ he_pl g L ln M)) (cc := cX11_offer) (maxL := 10) (ret := (some .int)) (fun A => va_Qi (fun (r : Int32) (u : (Nat → Int32) × (Nat → Int32) × (Nat → Nat → Int32)) => a25 f u.1 ∧ mO r3 r4 r6 M u.2.2) (fun u t => he_post g A ((fun (u : (Nat → Int32) × (Nat → Int32) × (Nat → Nat → Int32)) => [(oX11 m0 0 ta sz_ pl at_ fa fw cs fd rfm rt_ to_ rw_ wa ct rk rb cn br sm as_ go sh_ ir oa ob th ig sp_ ki tg of_ kp sf rs), (aI g to_ 25 tl), (aI g sm 25 u.1), (aM g wa 6 (he_ro 6 r2)), (aM g sh_ 120 (he_ro 120 r6)), (aM g cn 7 (he_ro 7 r3)), (aM g br 7 (he_ro 7 r4)), (aI g as_ 25 u.2.1)] ++ he_pl g L ln u.2.2) u) t) A) (by decide) rfl (Nat.le_of_ble_eq_true rfl) ?_
  intro p e s m args below meth c A ls H locs Q hQ hB
  obtain ⟨hx, hb, hr, hml, hown, hts, hlk, hin, hP, hK, hD, hS, hA, hE, hl⟩ := hB
  have hl : lv_has ls 10 [(0, .ref m0), (1, .int (nI n)), (2, .int wh)] := hl
  have f85 := hts (.fieldLink RX11 85 "HiredEnemyModel" "thrown" "I") (iwoX11_offer (k := 0) rfl)
  have inX11 : ∀ w ∈ wsX110, w ∈ wsX11_offer := innX11_offer_X11
  have f40 := hts (.fieldLink RX11 40 "HiredEnemyModel" "contract" "[[I") (iwoX11_offer (k := 1) rfl)
  have f43 := hts (.fieldLink RX11 43 "HiredEnemyModel" "breach" "[[I") (iwoX11_offer (k := 2) rfl)
  refine lv_aload_n hx hb dX11_offer_0 rfl (lv_at hl 0 rfl) ?_
  refine lv_iconst (v := 0) hx hb dX11_offer_1 (by decide) ?_
  refine va_put (v := .int 0) (ty := .int) (T := TX11) (N := 35) hx hb hts inX11 tyX11 tyX11_ok nmX11 hown hK hP hD hS 0 rfl rfl 0 (by decide) f85 (fun _ h9 => h9) rfl (by decide +kernel) rfl rfl (Nat.le_of_ble_eq_true rfl) dX11_offer_2 (fun H locs hP hD hS => ?_)
  have hP : va_P g.1 vwCl ([(oX11 m0 0 ta sz_ pl at_ fa fw cs fd rfm rt_ to_ rw_ wa ct rk rb cn br sm as_ go sh_ ir oa ob th ig sp_ ki tg of_ kp sf rs), (aI g to_ 25 tl), (aI g sm 25 f), (aM g wa 6 (he_ro 6 r2)), (aM g sh_ 120 (he_ro 120 r6)), (aM g cn 7 (he_ro 7 r3)), (aM g br 7 (he_ro 7 r4)), (aI g as_ 25 g0)] ++ he_pl g L ln M) H := hP
  have hD : va_D A ([(oX11 m0 0 ta sz_ pl at_ fa fw cs fd rfm rt_ to_ rw_ wa ct rk rb cn br sm as_ go sh_ ir oa ob th ig sp_ ki tg of_ kp sf rs), (aI g to_ 25 tl), (aI g sm 25 f), (aM g wa 6 (he_ro 6 r2)), (aM g sh_ 120 (he_ro 120 r6)), (aM g cn 7 (he_ro 7 r3)), (aM g br 7 (he_ro 7 r4)), (aI g as_ 25 g0)] ++ he_pl g L ln M) := hD
  refine lv_aload_n hx hb dX11_offer_5 rfl (lv_at hl 0 rfl) ?_
  refine lv_iload_n hx hb dX11_offer_6 rfl (lv_at hl 1 rfl) ?_
  refine he_ci (wc := []) (wr := ([(oX11 m0 0 ta sz_ pl at_ fa fw cs fd rfm rt_ to_ rw_ wa ct rk rb cn br sm as_ go sh_ ir oa ob th ig sp_ ki tg of_ kp sf rs), (aI g to_ 25 tl), (aI g sm 25 f), (aM g wa 6 (he_ro 6 r2)), (aM g sh_ 120 (he_ro 120 r6)), (aM g cn 7 (he_ro 7 r3)), (aM g br 7 (he_ro 7 r4)), (aI g as_ 25 g0)] ++ (he_pl g L ln M))) (va_runS (As := [.int (nI n)]) (rest := [.ref m0]) ⟨hx, hb, hml, hown, hts⟩ (c_X11_areMonths l g (nI n) H.size) (va_cwS 1 hts gX11_offer_X11_areMonths rfl rfl rfl (by decide +kernel) ⟨Nat.le_of_ble_eq_true rfl, Nat.le_of_ble_eq_true rfl⟩) (he_preS (wc := []) hK hP hD hS hA hE [] rfl rfl) rfl rfl hl.1 rfl (lv_room (Nat.le_of_ble_eq_true rfl)) dX11_offer_7 ⟨(Nat.le_of_ble_eq_true rfl), (Nat.le_of_ble_eq_true rfl)⟩) hP hD hS hA [] (he_is [0, 1, 2, 3, 4, 5, 6, 7] [(oX11 m0 0 ta sz_ pl at_ fa fw cs fd rfm rt_ to_ rw_ wa ct rk rb cn br sm as_ go sh_ ir oa ob th ig sp_ ki tg of_ kp sf rs), (aI g to_ 25 tl), (aI g sm 25 f), (aM g wa 6 (he_ro 6 r2)), (aM g sh_ 120 (he_ro 120 r6)), (aM g cn 7 (he_ro 7 r3)), (aM g br 7 (he_ro 7 r4)), (aI g as_ 25 g0)] (he_pl g L ln M)) rfl (he_ixP rfl) (he_ndP rfl rfl) (he_disN (by decide) rfl) (fun r_1 u_2 H locs h_3 hP hD hS => ?_)
  have hP := va_P.swap hP
  have hD := va_D.swap hD
  subst h_3
  have hP : va_P g.1 vwCl ([(oX11 m0 0 ta sz_ pl at_ fa fw cs fd rfm rt_ to_ rw_ wa ct rk rb cn br sm as_ go sh_ ir oa ob th ig sp_ ki tg of_ kp sf rs), (aI g to_ 25 tl), (aI g sm 25 f), (aM g wa 6 (he_ro 6 r2)), (aM g sh_ 120 (he_ro 120 r6)), (aM g cn 7 (he_ro 7 r3)), (aM g br 7 (he_ro 7 r4)), (aI g as_ 25 g0)] ++ he_pl g L ln M) H := hP
  have hD : va_D A ([(oX11 m0 0 ta sz_ pl at_ fa fw cs fd rfm rt_ to_ rw_ wa ct rk rb cn br sm as_ go sh_ ir oa ob th ig sp_ ki tg of_ kp sf rs), (aI g to_ 25 tl), (aI g sm 25 f), (aM g wa 6 (he_ro 6 r2)), (aM g sh_ 120 (he_ro 120 r6)), (aM g cn 7 (he_ro 7 r3)), (aM g br 7 (he_ro 7 r4)), (aI g as_ 25 g0)] ++ he_pl g L ln M) := hD
  refine he_top (1) (he_within_in (a0 := 1) (B := 60) rfl rfl (by omega) (by omega) (by decide)) ?_
  refine lv_if_eq (tgt := 22) hx hb dX11_offer_10 (by decide) (fun c_4 => ?_) (fun c_4 => ?_)
  · exact absurd c_4 (by decide)
  · refine lv_iload_n hx hb dX11_offer_13 rfl (lv_at hl 2 rfl) ?_
    refine lv_iconst (v := 0) hx hb dX11_offer_14 (by decide) ?_
    refine lv_iconst (v := 3) hx hb dX11_offer_15 (by decide) ?_
    refine he_ci (wc := []) (wr := ([(oX11 m0 0 ta sz_ pl at_ fa fw cs fd rfm rt_ to_ rw_ wa ct rk rb cn br sm as_ go sh_ ir oa ob th ig sp_ ki tg of_ kp sf rs), (aI g to_ 25 tl), (aI g sm 25 f), (aM g wa 6 (he_ro 6 r2)), (aM g sh_ 120 (he_ro 120 r6)), (aM g cn 7 (he_ro 7 r3)), (aM g br 7 (he_ro 7 r4)), (aI g as_ 25 g0)] ++ (he_pl g L ln M))) (va_runS (As := [.int wh, .int 0, .int 3]) (rest := [.ref m0]) ⟨hx, hb, hml, hown, hts⟩ (c_X11_in l g wh 0 3 H.size) (va_cwS 3 hts gX11_offer_X11_in rfl rfl rfl (by decide +kernel) ⟨Nat.le_of_ble_eq_true rfl, Nat.le_of_ble_eq_true rfl⟩) (he_preS (wc := []) hK hP hD hS hA hE [] rfl rfl) rfl rfl hl.1 rfl (lv_room (Nat.le_of_ble_eq_true rfl)) dX11_offer_16 ⟨(Nat.le_of_ble_eq_true rfl), (Nat.le_of_ble_eq_true rfl)⟩) hP hD hS hA [] (he_is [0, 1, 2, 3, 4, 5, 6, 7] [(oX11 m0 0 ta sz_ pl at_ fa fw cs fd rfm rt_ to_ rw_ wa ct rk rb cn br sm as_ go sh_ ir oa ob th ig sp_ ki tg of_ kp sf rs), (aI g to_ 25 tl), (aI g sm 25 f), (aM g wa 6 (he_ro 6 r2)), (aM g sh_ 120 (he_ro 120 r6)), (aM g cn 7 (he_ro 7 r3)), (aM g br 7 (he_ro 7 r4)), (aI g as_ 25 g0)] (he_pl g L ln M)) rfl (he_ixP rfl) (he_ndP rfl rfl) (he_disN (by decide) rfl) (fun r_5 u_6 H locs h_7 hP hD hS => ?_)
    have hP := va_P.swap hP
    have hD := va_D.swap hD
    subst h_7
    have hP : va_P g.1 vwCl ([(oX11 m0 0 ta sz_ pl at_ fa fw cs fd rfm rt_ to_ rw_ wa ct rk rb cn br sm as_ go sh_ ir oa ob th ig sp_ ki tg of_ kp sf rs), (aI g to_ 25 tl), (aI g sm 25 f), (aM g wa 6 (he_ro 6 r2)), (aM g sh_ 120 (he_ro 120 r6)), (aM g cn 7 (he_ro 7 r3)), (aM g br 7 (he_ro 7 r4)), (aI g as_ 25 g0)] ++ he_pl g L ln M) H := hP
    have hD : va_D A ([(oX11 m0 0 ta sz_ pl at_ fa fw cs fd rfm rt_ to_ rw_ wa ct rk rb cn br sm as_ go sh_ ir oa ob th ig sp_ ki tg of_ kp sf rs), (aI g to_ 25 tl), (aI g sm 25 f), (aM g wa 6 (he_ro 6 r2)), (aM g sh_ 120 (he_ro 120 r6)), (aM g cn 7 (he_ro 7 r3)), (aM g br 7 (he_ro 7 r4)), (aI g as_ 25 g0)] ++ he_pl g L ln M) := hD
    refine he_top (1) (he_within_1 hok0) ?_
    refine lv_if_ne (tgt := 26) hx hb dX11_offer_19 (by decide) (fun c_8 => ?_) (fun c_8 => ?_)
    · refine lv_iconst (v := 0) hx hb dX11_offer_26 (by decide) ?_
      refine lv_iconst (v := 1) hx hb dX11_offer_27 (by decide) ?_
      refine lv_iconst (v := 2) hx hb dX11_offer_28 (by decide) ?_
      refine he_ci (wc := [(oX11 m0 0 ta sz_ pl at_ fa fw cs fd rfm rt_ to_ rw_ wa ct rk rb cn br sm as_ go sh_ ir oa ob th ig sp_ ki tg of_ kp sf rs)]) (wr := ([(aI g to_ 25 tl), (aI g sm 25 f), (aM g wa 6 (he_ro 6 r2)), (aM g sh_ 120 (he_ro 120 r6)), (aM g cn 7 (he_ro 7 r3)), (aM g br 7 (he_ro 7 r4)), (aI g as_ 25 g0)] ++ (he_pl g L ln M))) (va_runV (As := [.int 0, .int 1, .int 2]) (rest := []) ⟨hx, hb, hml, hown, hts⟩ (c_X11_bad0 l g m0 fd rfm rt_ to_ rw_ wa rk rb cn br sm as_ go sh_ ki tg of_ kp rs ta sz_ pl at_ fa fw cs ct ir oa ob th ig sp_ sf 1 2 H.size) (cwV 3 hts gX11_offer_X11_bad rfl rfl rfl (by decide +kernel) ⟨Nat.le_of_ble_eq_true rfl, Nat.le_of_ble_eq_true rfl⟩) (he_preV (wc := [(oX11 m0 0 ta sz_ pl at_ fa fw cs fd rfm rt_ to_ rw_ wa ct rk rb cn br sm as_ go sh_ ir oa ob th ig sp_ ki tg of_ kp sf rs)]) hK hP hD hS hA hE [0] rfl rfl 0 rfl rfl) rfl rfl hl.1 rfl (lv_room (Nat.le_of_ble_eq_true rfl)) dX11_offer_29 ⟨(Nat.le_of_ble_eq_true rfl), (Nat.le_of_ble_eq_true rfl)⟩) hP hD hS hA [0] (he_is [1, 2, 3, 4, 5, 6, 7] [(oX11 m0 0 ta sz_ pl at_ fa fw cs fd rfm rt_ to_ rw_ wa ct rk rb cn br sm as_ go sh_ ir oa ob th ig sp_ ki tg of_ kp sf rs), (aI g to_ 25 tl), (aI g sm 25 f), (aM g wa 6 (he_ro 6 r2)), (aM g sh_ 120 (he_ro 120 r6)), (aM g cn 7 (he_ro 7 r3)), (aM g br 7 (he_ro 7 r4)), (aI g as_ 25 g0)] (he_pl g L ln M)) rfl (he_ixP rfl) (he_ndP rfl rfl) (he_disN (by decide) rfl) (fun r_9 u_10 H locs h_11 hP hD hS => ?_)
      have hP := va_P.swap hP
      have hD := va_D.swap hD
      subst h_11
      have hP : va_P g.1 vwCl ([(aI g to_ 25 tl), (aI g sm 25 f), (aM g wa 6 (he_ro 6 r2)), (aM g sh_ 120 (he_ro 120 r6)), (aM g cn 7 (he_ro 7 r3)), (aM g br 7 (he_ro 7 r4)), (aI g as_ 25 g0), (oX11 m0 0 ta sz_ pl at_ fa fw cs fd rfm rt_ to_ rw_ wa ct rk rb cn br sm as_ go sh_ ir oa ob th ig sp_ ki tg of_ kp sf rs)] ++ he_pl g L ln M) H := hP
      have hD : va_D A ([(aI g to_ 25 tl), (aI g sm 25 f), (aM g wa 6 (he_ro 6 r2)), (aM g sh_ 120 (he_ro 120 r6)), (aM g cn 7 (he_ro 7 r3)), (aM g br 7 (he_ro 7 r4)), (aI g as_ 25 g0), (oX11 m0 0 ta sz_ pl at_ fa fw cs fd rfm rt_ to_ rw_ wa ct rk rb cn br sm as_ go sh_ ir oa ob th ig sp_ ki tg of_ kp sf rs)] ++ he_pl g L ln M) := hD
      refine lv_if_eq (tgt := 37) hx hb dX11_offer_32 (by decide) (fun c_12 => ?_) (fun c_12 => ?_)
      · refine lv_iconst (v := 0) hx hb dX11_offer_37 (by decide) ?_
        refine lv_istore_n (lv' := [(3, .int 0), (0, .ref m0), (1, .int (nI n)), (2, .int wh)]) hx hb dX11_offer_38 rfl hl (by decide) rfl (fun ls hl => ?_)
        refine lv_iconst (v := 0) hx hb dX11_offer_39 (by decide) ?_
        refine lv_istore (lv' := [(4, .int 0), (3, .int 0), (0, .ref m0), (1, .int (nI n)), (2, .int wh)]) hx hb dX11_offer_40 hl (by decide) rfl (fun ls hl => ?_)
        refine lv_iconst (v := (-1)) hx hb dX11_offer_42 (by decide) ?_
        refine lv_istore (lv' := [(5, .int (-1)), (4, .int 0), (3, .int 0), (0, .ref m0), (1, .int (nI n)), (2, .int wh)]) hx hb dX11_offer_43 hl (by decide) rfl (fun ls hl => ?_)
        refine lv_aload_n hx hb dX11_offer_45 rfl (lv_at hl 3 rfl) ?_
        refine va_get (v := .ref cn) (T := TX11) (N := 35) hx hb hts inX11 hown hK hP 7 rfl rfl 17 (by decide) f40 (fun _ h9 => h9) rfl dX11_offer_46 ?_
        refine lv_bipush (v := 6) hx hb dX11_offer_49 (by decide) ?_
        refine he_aldm hx hb hK hP 4 rfl (6) (by decide) (by decide) (by decide) dX11_offer_51 ?_
        refine lv_astore (lv' := [(6, .ref (r3 6)), (5, .int (-1)), (4, .int 0), (3, .int 0), (0, .ref m0), (1, .int (nI n)), (2, .int wh)]) hx hb dX11_offer_52 hl (by decide) rfl (fun ls hl => ?_)
        refine lv_iconst (v := 0) hx hb dX11_offer_54 (by decide) ?_
        refine lv_istore (lv' := [(7, .int 0), (6, .ref (r3 6)), (5, .int (-1)), (4, .int 0), (3, .int 0), (0, .ref m0), (1, .int (nI n)), (2, .int wh)]) hx hb dX11_offer_55 hl (by decide) rfl (fun ls hl => ?_)
        have loop57 : ∀ (n9 : Nat) (i1 : Nat) (Mj : Nat → Nat → Int32), 36 - i1 < n9 → (i1 ≤ 36) → (bN r4 Mj i1) → (mO r3 r4 r6 M Mj) → ∀ (H : Heap) (locs : List Loc) (ls : Array Slot), va_P g.1 vwCl ([(oX11 m0 0 ta sz_ pl at_ fa fw cs fd rfm rt_ to_ rw_ wa ct rk rb cn br sm as_ go sh_ ir oa ob th ig sp_ ki tg of_ kp sf rs), (aI g to_ 25 tl), (aI g sm 25 f), (aM g wa 6 (he_ro 6 r2)), (aM g sh_ 120 (he_ro 120 r6)), (aM g cn 7 (he_ro 7 r3)), (aM g br 7 (he_ro 7 r4)), (aI g as_ 25 g0)] ++ he_pl g L ln Mj) H → va_D A ([(oX11 m0 0 ta sz_ pl at_ fa fw cs fd rfm rt_ to_ rw_ wa ct rk rb cn br sm as_ go sh_ ir oa ob th ig sp_ ki tg of_ kp sf rs), (aI g to_ 25 tl), (aI g sm 25 f), (aM g wa 6 (he_ro 6 r2)), (aM g sh_ 120 (he_ro 120 r6)), (aM g cn 7 (he_ro 7 r3)), (aM g br 7 (he_ro 7 r4)), (aI g as_ 25 g0)] ++ he_pl g L ln Mj) → va_S A s.heap H locs → lv_has ls 10 [(0, .ref m0), (1, .int (nI n)), (2, .int wh), (3, .int 0), (4, .int 0), (5, .int (-1)), (6, .ref (r3 6)), (7, .int (nI i1))] → W p l e (he_room 6 136 0 0) s m args below meth c H locs 0 0 Q (F0 m 57 ls []) := by
          intro n9
          induction n9 with
          | zero => intro i1 Mj hm9; exact absurd hm9 (Nat.not_lt_zero _)
          | succ n9 ih57 =>
            intro i1 Mj hm9 hi1 hbn hmo H locs ls hP hD hS hl
            refine lv_iload hx hb dX11_offer_57 (lv_at hl 7 rfl) ?_
            refine lv_bipush (v := 36) hx hb dX11_offer_59 (by decide) ?_
            refine lv_icmp_ge (tgt := 81) hx hb dX11_offer_61 (by decide) (fun c_13 => ?_) (fun c_13 => ?_)
            · have k_14 : 36 ≤ i1 := (he_cle (a := 36) (b := i1) (by decide) rfl (by omega) (by omega)).mp c_13
              obtain rfl : i1 = 36 := by omega
              refine lv_iconst (v := 0) hx hb dX11_offer_81 (by decide) ?_
              refine lv_istore (lv' := [(7, .int 0), (0, .ref m0), (1, .int (nI n)), (2, .int wh), (3, .int 0), (4, .int 0), (5, .int (-1)), (6, .ref (r3 6))]) hx hb dX11_offer_82 hl (by decide) rfl (fun ls hl => ?_)
              have loop84 : ∀ (n9 : Nat) (r : Nat) (bn : Int32) (bc : Int32) (bm : Int32) (F : Nat → Int32) (Gs : Nat → Int32) (Mj : Nat → Nat → Int32), 10 - r < n9 → (r ≤ 10) → (a25 f F) → (bN r4 Mj 36) → (mO r3 r4 r6 M Mj) → ∀ (H : Heap) (locs : List Loc) (ls : Array Slot), va_P g.1 vwCl ([(oX11 m0 0 ta sz_ pl at_ fa fw cs fd rfm rt_ to_ rw_ wa ct rk rb cn br sm as_ go sh_ ir oa ob th ig sp_ ki tg of_ kp sf rs), (aI g to_ 25 tl), (aI g sm 25 F), (aM g wa 6 (he_ro 6 r2)), (aM g sh_ 120 (he_ro 120 r6)), (aM g cn 7 (he_ro 7 r3)), (aM g br 7 (he_ro 7 r4)), (aI g as_ 25 Gs)] ++ he_pl g L ln Mj) H → va_D A ([(oX11 m0 0 ta sz_ pl at_ fa fw cs fd rfm rt_ to_ rw_ wa ct rk rb cn br sm as_ go sh_ ir oa ob th ig sp_ ki tg of_ kp sf rs), (aI g to_ 25 tl), (aI g sm 25 F), (aM g wa 6 (he_ro 6 r2)), (aM g sh_ 120 (he_ro 120 r6)), (aM g cn 7 (he_ro 7 r3)), (aM g br 7 (he_ro 7 r4)), (aI g as_ 25 Gs)] ++ he_pl g L ln Mj) → va_S A s.heap H locs → lv_has ls 10 [(0, .ref m0), (1, .int (nI n)), (2, .int wh), (3, .int bn), (4, .int bc), (5, .int bm), (6, .ref (r3 6)), (7, .int (nI r))] → W p l e (he_room 6 136 0 0) s m args below meth c H locs 0 0 Q (F0 m 84 ls []) := by
                intro n9
                induction n9 with
                | zero => intro r bn bc bm F Gs Mj hm9; exact absurd hm9 (Nat.not_lt_zero _)
                | succ n9 ih84 =>
                  intro r bn bc bm F Gs Mj hm9 hr10 hF hbn hmo H locs ls hP hD hS hl
                  refine lv_iload hx hb dX11_offer_84 (lv_at hl 7 rfl) ?_
                  refine lv_bipush (v := 10) hx hb dX11_offer_86 (by decide) ?_
                  refine lv_icmp_ge (tgt := 185) hx hb dX11_offer_88 (by decide) (fun c_15 => ?_) (fun c_15 => ?_)
                  · have k_16 : 10 ≤ r := (he_cle (a := 10) (b := r) (by decide) rfl (by omega) (by omega)).mp c_15
                    refine lv_iload_n hx hb dX11_offer_185 rfl (lv_at hl 2 rfl) ?_
                    refine lv_if_ne (tgt := 193) hx hb dX11_offer_186 (by decide) (fun c_17 => ?_) (fun c_17 => ?_)
                    · refine lv_iload_n hx hb dX11_offer_193 rfl (lv_at hl 2 rfl) ?_
                      refine lv_iconst (v := 1) hx hb dX11_offer_194 (by decide) ?_
                      refine lv_icmp_ne (tgt := 203) hx hb dX11_offer_195 (by decide) (fun c_18 => ?_) (fun c_18 => ?_)
                      · refine lv_iload_n hx hb dX11_offer_203 rfl (lv_at hl 2 rfl) ?_
                        refine lv_iconst (v := 2) hx hb dX11_offer_204 (by decide) ?_
                        refine lv_icmp_ne (tgt := 218) hx hb dX11_offer_205 (by decide) (fun c_19 => ?_) (fun c_19 => ?_)
                        · refine lv_iload hx hb dX11_offer_218 (lv_at hl 5 rfl) ?_
                          exact he_ri hQ hx hb hr hlk hP hD hS dX11_offer_220 (Nat.le_of_ble_eq_true rfl) (Nat.le_of_ble_eq_true rfl) ((F, Gs, Mj)) (rfl) (by (try dsimp only); exact ⟨hF, hmo⟩)
                        · refine lv_aload_n hx hb dX11_offer_208 rfl (lv_at hl 0 rfl) ?_
                          refine lv_iload_n hx hb dX11_offer_209 rfl (lv_at hl 3 rfl) ?_
                          refine lv_iload hx hb dX11_offer_210 (lv_at hl 4 rfl) ?_
                          refine he_ci (wc := [(oX11 m0 0 ta sz_ pl at_ fa fw cs fd rfm rt_ to_ rw_ wa ct rk rb cn br sm as_ go sh_ ir oa ob th ig sp_ ki tg of_ kp sf rs), (aI g to_ 25 tl)]) (wr := ([(aI g sm 25 F), (aM g wa 6 (he_ro 6 r2)), (aM g sh_ 120 (he_ro 120 r6)), (aM g cn 7 (he_ro 7 r3)), (aM g br 7 (he_ro 7 r4)), (aI g as_ 25 Gs)] ++ (he_pl g L ln Mj))) (va_runV (As := [.int bn, .int bc]) (rest := []) ⟨hx, hb, hml, hown, hts⟩ (c_X11_wantsFor l g m0 fd rfm rt_ to_ rw_ wa rk rb cn br sm as_ go sh_ ki tg of_ kp rs ta sz_ pl at_ fa fw cs ct ir oa ob th ig sp_ sf 0 tl bn bc H.size) (cwV 2 hts gX11_offer_X11_wantsFor rfl rfl rfl (by decide +kernel) ⟨Nat.le_of_ble_eq_true rfl, Nat.le_of_ble_eq_true rfl⟩) (he_preV (wc := [(oX11 m0 0 ta sz_ pl at_ fa fw cs fd rfm rt_ to_ rw_ wa ct rk rb cn br sm as_ go sh_ ir oa ob th ig sp_ ki tg of_ kp sf rs), (aI g to_ 25 tl)]) hK hP hD hS hA hE [0, 1] rfl rfl 0 rfl rfl) rfl rfl hl.1 rfl (lv_room (Nat.le_of_ble_eq_true rfl)) dX11_offer_212 ⟨(Nat.le_of_ble_eq_true rfl), (Nat.le_of_ble_eq_true rfl)⟩) hP hD hS hA [0, 1] (he_is [2, 3, 4, 5, 6, 7] [(oX11 m0 0 ta sz_ pl at_ fa fw cs fd rfm rt_ to_ rw_ wa ct rk rb cn br sm as_ go sh_ ir oa ob th ig sp_ ki tg of_ kp sf rs), (aI g to_ 25 tl), (aI g sm 25 F), (aM g wa 6 (he_ro 6 r2)), (aM g sh_ 120 (he_ro 120 r6)), (aM g cn 7 (he_ro 7 r3)), (aM g br 7 (he_ro 7 r4)), (aI g as_ 25 Gs)] (he_pl g L ln Mj)) rfl (he_ixP rfl) (he_ndP rfl rfl) (he_disN (by decide) rfl) (fun r_20 u_21 H locs h_22 hP hD hS => ?_)
                          have hP := va_P.swap hP
                          have hD := va_D.swap hD
                          subst h_22
                          have hP : va_P g.1 vwCl ([(aI g sm 25 F), (aM g wa 6 (he_ro 6 r2)), (aM g sh_ 120 (he_ro 120 r6)), (aM g cn 7 (he_ro 7 r3)), (aM g br 7 (he_ro 7 r4)), (aI g as_ 25 Gs), (oX11 m0 0 ta sz_ pl at_ fa fw cs fd rfm rt_ to_ rw_ wa ct rk rb cn br sm as_ go sh_ ir oa ob th ig sp_ ki tg of_ kp sf rs), (aI g to_ 25 tl)] ++ he_pl g L ln Mj) H := hP
                          have hD : va_D A ([(aI g sm 25 F), (aM g wa 6 (he_ro 6 r2)), (aM g sh_ 120 (he_ro 120 r6)), (aM g cn 7 (he_ro 7 r3)), (aM g br 7 (he_ro 7 r4)), (aI g as_ 25 Gs), (oX11 m0 0 ta sz_ pl at_ fa fw cs fd rfm rt_ to_ rw_ wa ct rk rb cn br sm as_ go sh_ ir oa ob th ig sp_ ki tg of_ kp sf rs), (aI g to_ 25 tl)] ++ he_pl g L ln Mj) := hD
                          refine lv_goto (tgt := 220) hx hb dX11_offer_215 (by decide) ?_
                          have hP := he_Psub (X := [(aI g sm 25 F), (aM g wa 6 (he_ro 6 r2)), (aM g sh_ 120 (he_ro 120 r6)), (aM g cn 7 (he_ro 7 r3)), (aM g br 7 (he_ro 7 r4)), (aI g as_ 25 Gs), (oX11 m0 0 ta sz_ pl at_ fa fw cs fd rfm rt_ to_ rw_ wa ct rk rb cn br sm as_ go sh_ ir oa ob th ig sp_ ki tg of_ kp sf rs), (aI g to_ 25 tl)]) (X2 := [(oX11 m0 0 ta sz_ pl at_ fa fw cs fd rfm rt_ to_ rw_ wa ct rk rb cn br sm as_ go sh_ ir oa ob th ig sp_ ki tg of_ kp sf rs), (aI g to_ 25 tl), (aI g sm 25 F), (aM g wa 6 (he_ro 6 r2)), (aM g sh_ 120 (he_ro 120 r6)), (aM g cn 7 (he_ro 7 r3)), (aM g br 7 (he_ro 7 r4)), (aI g as_ 25 Gs)]) (P := (he_pl g L ln Mj)) hP [6, 7, 0, 1, 2, 3, 4, 5] rfl
                          have hD := he_Dsub (X := [(aI g sm 25 F), (aM g wa 6 (he_ro 6 r2)), (aM g sh_ 120 (he_ro 120 r6)), (aM g cn 7 (he_ro 7 r3)), (aM g br 7 (he_ro 7 r4)), (aI g as_ 25 Gs), (oX11 m0 0 ta sz_ pl at_ fa fw cs fd rfm rt_ to_ rw_ wa ct rk rb cn br sm as_ go sh_ ir oa ob th ig sp_ ki tg of_ kp sf rs), (aI g to_ 25 tl)]) (X2 := [(oX11 m0 0 ta sz_ pl at_ fa fw cs fd rfm rt_ to_ rw_ wa ct rk rb cn br sm as_ go sh_ ir oa ob th ig sp_ ki tg of_ kp sf rs), (aI g to_ 25 tl), (aI g sm 25 F), (aM g wa 6 (he_ro 6 r2)), (aM g sh_ 120 (he_ro 120 r6)), (aM g cn 7 (he_ro 7 r3)), (aM g br 7 (he_ro 7 r4)), (aI g as_ 25 Gs)]) (P := (he_pl g L ln Mj)) hD [6, 7, 0, 1, 2, 3, 4, 5] rfl rfl rfl
                          exact he_ri hQ hx hb hr hlk hP hD hS dX11_offer_220 (Nat.le_of_ble_eq_true rfl) (Nat.le_of_ble_eq_true rfl) ((F, Gs, Mj)) (rfl) (by (try dsimp only); exact ⟨hF, hmo⟩)
                      · refine lv_iload hx hb dX11_offer_198 (lv_at hl 4 rfl) ?_
                        refine lv_goto (tgt := 220) hx hb dX11_offer_200 (by decide) ?_
                        exact he_ri hQ hx hb hr hlk hP hD hS dX11_offer_220 (Nat.le_of_ble_eq_true rfl) (Nat.le_of_ble_eq_true rfl) ((F, Gs, Mj)) (rfl) (by (try dsimp only); exact ⟨hF, hmo⟩)
                    · refine lv_iload_n hx hb dX11_offer_189 rfl (lv_at hl 3 rfl) ?_
                      refine lv_goto (tgt := 220) hx hb dX11_offer_190 (by decide) ?_
                      exact he_ri hQ hx hb hr hlk hP hD hS dX11_offer_220 (Nat.le_of_ble_eq_true rfl) (Nat.le_of_ble_eq_true rfl) ((F, Gs, Mj)) (rfl) (by (try dsimp only); exact ⟨hF, hmo⟩)
                  · have k_23 : ¬ (10 ≤ r) := fun h9 => c_15 ((he_cle (a := 10) (b := r) (by decide) rfl (by omega) (by omega)).mpr h9)
                    refine lv_iconst (v := 0) hx hb dX11_offer_91 (by decide) ?_
                    refine lv_istore (lv' := [(8, .int 0), (0, .ref m0), (1, .int (nI n)), (2, .int wh), (3, .int bn), (4, .int bc), (5, .int bm), (6, .ref (r3 6)), (7, .int (nI r))]) hx hb dX11_offer_92 hl (by decide) rfl (fun ls hl => ?_)
                    have loop94 : ∀ (n9 : Nat) (c9 : Nat) (bn : Int32) (bc : Int32) (bm : Int32) (F : Nat → Int32) (Gs : Nat → Int32) (Mj : Nat → Nat → Int32), 21 - c9 < n9 → (c9 ≤ 21) → (a25 f F) → (bN r4 Mj 36) → (mO r3 r4 r6 M Mj) → ∀ (H : Heap) (locs : List Loc) (ls : Array Slot), va_P g.1 vwCl ([(oX11 m0 0 ta sz_ pl at_ fa fw cs fd rfm rt_ to_ rw_ wa ct rk rb cn br sm as_ go sh_ ir oa ob th ig sp_ ki tg of_ kp sf rs), (aI g to_ 25 tl), (aI g sm 25 F), (aM g wa 6 (he_ro 6 r2)), (aM g sh_ 120 (he_ro 120 r6)), (aM g cn 7 (he_ro 7 r3)), (aM g br 7 (he_ro 7 r4)), (aI g as_ 25 Gs)] ++ he_pl g L ln Mj) H → va_D A ([(oX11 m0 0 ta sz_ pl at_ fa fw cs fd rfm rt_ to_ rw_ wa ct rk rb cn br sm as_ go sh_ ir oa ob th ig sp_ ki tg of_ kp sf rs), (aI g to_ 25 tl), (aI g sm 25 F), (aM g wa 6 (he_ro 6 r2)), (aM g sh_ 120 (he_ro 120 r6)), (aM g cn 7 (he_ro 7 r3)), (aM g br 7 (he_ro 7 r4)), (aI g as_ 25 Gs)] ++ he_pl g L ln Mj) → va_S A s.heap H locs → lv_has ls 10 [(0, .ref m0), (1, .int (nI n)), (2, .int wh), (3, .int bn), (4, .int bc), (5, .int bm), (6, .ref (r3 6)), (7, .int (nI r)), (8, .int (nI c9))] → W p l e (he_room 6 136 0 0) s m args below meth c H locs 0 0 Q (F0 m 94 ls []) := by
                      intro n9
                      induction n9 with
                      | zero => intro c9 bn bc bm F Gs Mj hm9; exact absurd hm9 (Nat.not_lt_zero _)
                      | succ n9 ih94 =>
                        intro c9 bn bc bm F Gs Mj hm9 hc hF hbn hmo H locs ls hP hD hS hl
                        refine lv_iload hx hb dX11_offer_94 (lv_at hl 8 rfl) ?_
                        refine lv_bipush (v := 21) hx hb dX11_offer_96 (by decide) ?_
                        refine lv_icmp_ge (tgt := 179) hx hb dX11_offer_98 (by decide) (fun c_24 => ?_) (fun c_24 => ?_)
                        · have k_25 : 21 ≤ c9 := (he_cle (a := 21) (b := c9) (by decide) rfl (by omega) (by omega)).mp c_24
                          refine lv_iinc (v := nI (r + 1)) (lv' := [(7, .int (nI (r + 1))), (0, .ref m0), (1, .int (nI n)), (2, .int wh), (3, .int bn), (4, .int bc), (5, .int bm), (6, .ref (r3 6)), (8, .int (nI c9))]) hx hb dX11_offer_179 hl (k := 7) rfl (nI_1 r) (by decide) rfl (fun ls hl => ?_)
                          refine lv_goto (tgt := 84) hx hb dX11_offer_182 (by decide) ?_
                          exact ih84 (r + 1) bn bc bm F Gs Mj (by omega) (by omega) hF hbn hmo _ _ _ hP hD hS (lv_sub hl [1, 2, 3, 4, 5, 6, 7, 0] rfl)
                        · have k_26 : ¬ (21 ≤ c9) := fun h9 => c_24 ((he_cle (a := 21) (b := c9) (by decide) rfl (by omega) (by omega)).mpr h9)
                          refine lv_aload hx hb dX11_offer_101 (lv_at hl 6 rfl) ?_
                          refine lv_iconst (v := 0) hx hb dX11_offer_103 (by decide) ?_
                          refine lv_aload_n hx hb dX11_offer_104 rfl (lv_at hl 0 rfl) ?_
                          refine lv_iload hx hb dX11_offer_105 (lv_at hl 7 rfl) ?_
                          refine lv_iload hx hb dX11_offer_107 (lv_at hl 8 rfl) ?_
                          refine he_ci (wc := [(oX11 m0 0 ta sz_ pl at_ fa fw cs fd rfm rt_ to_ rw_ wa ct rk rb cn br sm as_ go sh_ ir oa ob th ig sp_ ki tg of_ kp sf rs), (aI g to_ 25 tl)]) (wr := ([(aI g sm 25 F), (aM g wa 6 (he_ro 6 r2)), (aM g sh_ 120 (he_ro 120 r6)), (aM g cn 7 (he_ro 7 r3)), (aM g br 7 (he_ro 7 r4)), (aI g as_ 25 Gs)] ++ (he_pl g L ln Mj))) (va_runV (As := [.int (nI r), .int (nI c9)]) (rest := [.int 0, .ref (r3 6)]) ⟨hx, hb, hml, hown, hts⟩ (c_X11_wantsFor l g m0 fd rfm rt_ to_ rw_ wa rk rb cn br sm as_ go sh_ ki tg of_ kp rs ta sz_ pl at_ fa fw cs ct ir oa ob th ig sp_ sf 0 tl (nI r) (nI c9) H.size) (cwV 2 hts gX11_offer_X11_wantsFor rfl rfl rfl (by decide +kernel) ⟨Nat.le_of_ble_eq_true rfl, Nat.le_of_ble_eq_true rfl⟩) (he_preV (wc := [(oX11 m0 0 ta sz_ pl at_ fa fw cs fd rfm rt_ to_ rw_ wa ct rk rb cn br sm as_ go sh_ ir oa ob th ig sp_ ki tg of_ kp sf rs), (aI g to_ 25 tl)]) hK hP hD hS hA hE [0, 1] rfl rfl 0 rfl rfl) rfl rfl hl.1 rfl (lv_room (Nat.le_of_ble_eq_true rfl)) dX11_offer_109 ⟨(Nat.le_of_ble_eq_true rfl), (Nat.le_of_ble_eq_true rfl)⟩) hP hD hS hA [0, 1] (he_is [2, 3, 4, 5, 6, 7] [(oX11 m0 0 ta sz_ pl at_ fa fw cs fd rfm rt_ to_ rw_ wa ct rk rb cn br sm as_ go sh_ ir oa ob th ig sp_ ki tg of_ kp sf rs), (aI g to_ 25 tl), (aI g sm 25 F), (aM g wa 6 (he_ro 6 r2)), (aM g sh_ 120 (he_ro 120 r6)), (aM g cn 7 (he_ro 7 r3)), (aM g br 7 (he_ro 7 r4)), (aI g as_ 25 Gs)] (he_pl g L ln Mj)) rfl (he_ixP rfl) (he_ndP rfl rfl) (he_disN (by decide) rfl) (fun r_27 u_28 H locs h_29 hP hD hS => ?_)
                          have hP := va_P.swap hP
                          have hD := va_D.swap hD
                          subst h_29
                          have hP : va_P g.1 vwCl ([(aI g sm 25 F), (aM g wa 6 (he_ro 6 r2)), (aM g sh_ 120 (he_ro 120 r6)), (aM g cn 7 (he_ro 7 r3)), (aM g br 7 (he_ro 7 r4)), (aI g as_ 25 Gs), (oX11 m0 0 ta sz_ pl at_ fa fw cs fd rfm rt_ to_ rw_ wa ct rk rb cn br sm as_ go sh_ ir oa ob th ig sp_ ki tg of_ kp sf rs), (aI g to_ 25 tl)] ++ he_pl g L ln Mj) H := hP
                          have hD : va_D A ([(aI g sm 25 F), (aM g wa 6 (he_ro 6 r2)), (aM g sh_ 120 (he_ro 120 r6)), (aM g cn 7 (he_ro 7 r3)), (aM g br 7 (he_ro 7 r4)), (aI g as_ 25 Gs), (oX11 m0 0 ta sz_ pl at_ fa fw cs fd rfm rt_ to_ rw_ wa ct rk rb cn br sm as_ go sh_ ir oa ob th ig sp_ ki tg of_ kp sf rs), (aI g to_ 25 tl)] ++ he_pl g L ln Mj) := hD
                          refine he_past hx hb hK hP hD hS (⟨(F_r3 6 (by decide)).1, (F_r3 6 (by decide)).2.1⟩ : r3 6 ∈ L ∧ ln (r3 6) = 7).1 (0) (by decide) (by rw [(⟨(F_r3 6 (by decide)).1, (F_r3 6 (by decide)).2.1⟩ : r3 6 ∈ L ∧ ln (r3 6) = 7).2]; exact (by decide)) (by rw [(⟨(F_r3 6 (by decide)).1, (F_r3 6 (by decide)).2.1⟩ : r3 6 ∈ L ∧ ln (r3 6) = 7).2]; decide) dX11_offer_112 (fun H locs hP hD hS => ?_)
                          have hP : va_P g.1 vwCl ([(aI g sm 25 F), (aM g wa 6 (he_ro 6 r2)), (aM g sh_ 120 (he_ro 120 r6)), (aM g cn 7 (he_ro 7 r3)), (aM g br 7 (he_ro 7 r4)), (aI g as_ 25 Gs), (oX11 m0 0 ta sz_ pl at_ fa fw cs fd rfm rt_ to_ rw_ wa ct rk rb cn br sm as_ go sh_ ir oa ob th ig sp_ ki tg of_ kp sf rs), (aI g to_ 25 tl)] ++ he_pl g L ln (va_up Mj (r3 6) (upd (Mj (r3 6)) 0 (mwF tl (nI r) (nI c9))))) H := hP
                          have hD : va_D A ([(aI g sm 25 F), (aM g wa 6 (he_ro 6 r2)), (aM g sh_ 120 (he_ro 120 r6)), (aM g cn 7 (he_ro 7 r3)), (aM g br 7 (he_ro 7 r4)), (aI g as_ 25 Gs), (oX11 m0 0 ta sz_ pl at_ fa fw cs fd rfm rt_ to_ rw_ wa ct rk rb cn br sm as_ go sh_ ir oa ob th ig sp_ ki tg of_ kp sf rs), (aI g to_ 25 tl)] ++ he_pl g L ln (va_up Mj (r3 6) (upd (Mj (r3 6)) 0 (mwF tl (nI r) (nI c9))))) := hD
                          refine lv_aload hx hb dX11_offer_113 (lv_at hl 6 rfl) ?_
                          refine lv_iconst (v := 1) hx hb dX11_offer_115 (by decide) ?_
                          refine lv_aload hx hb dX11_offer_116 (lv_at hl 6 rfl) ?_
                          refine lv_iconst (v := 0) hx hb dX11_offer_118 (by decide) ?_
                          refine he_pald hx hb hK hP (⟨(F_r3 6 (by decide)).1, (F_r3 6 (by decide)).2.1⟩ : r3 6 ∈ L ∧ ln (r3 6) = 7).1 (0) (by decide) (by rw [(⟨(F_r3 6 (by decide)).1, (F_r3 6 (by decide)).2.1⟩ : r3 6 ∈ L ∧ ln (r3 6) = 7).2]; exact (by decide)) (by rw [(⟨(F_r3 6 (by decide)).1, (F_r3 6 (by decide)).2.1⟩ : r3 6 ∈ L ∧ ln (r3 6) = 7).2]; decide) (mwF tl (nI r) (nI c9)) (by simp [va_up, upd]) dX11_offer_119 ?_
                          refine he_past hx hb hK hP hD hS (⟨(F_r3 6 (by decide)).1, (F_r3 6 (by decide)).2.1⟩ : r3 6 ∈ L ∧ ln (r3 6) = 7).1 (1) (by decide) (by rw [(⟨(F_r3 6 (by decide)).1, (F_r3 6 (by decide)).2.1⟩ : r3 6 ∈ L ∧ ln (r3 6) = 7).2]; exact (by decide)) (by rw [(⟨(F_r3 6 (by decide)).1, (F_r3 6 (by decide)).2.1⟩ : r3 6 ∈ L ∧ ln (r3 6) = 7).2]; decide) dX11_offer_120 (fun H locs hP hD hS => ?_)
                          have hP : va_P g.1 vwCl ([(aI g sm 25 F), (aM g wa 6 (he_ro 6 r2)), (aM g sh_ 120 (he_ro 120 r6)), (aM g cn 7 (he_ro 7 r3)), (aM g br 7 (he_ro 7 r4)), (aI g as_ 25 Gs), (oX11 m0 0 ta sz_ pl at_ fa fw cs fd rfm rt_ to_ rw_ wa ct rk rb cn br sm as_ go sh_ ir oa ob th ig sp_ ki tg of_ kp sf rs), (aI g to_ 25 tl)] ++ he_pl g L ln (va_up (va_up Mj (r3 6) (upd (Mj (r3 6)) 0 (mwF tl (nI r) (nI c9)))) (r3 6) (upd ((va_up Mj (r3 6) (upd (Mj (r3 6)) 0 (mwF tl (nI r) (nI c9)))) (r3 6)) 1 (mwF tl (nI r) (nI c9))))) H := hP
                          have hD : va_D A ([(aI g sm 25 F), (aM g wa 6 (he_ro 6 r2)), (aM g sh_ 120 (he_ro 120 r6)), (aM g cn 7 (he_ro 7 r3)), (aM g br 7 (he_ro 7 r4)), (aI g as_ 25 Gs), (oX11 m0 0 ta sz_ pl at_ fa fw cs fd rfm rt_ to_ rw_ wa ct rk rb cn br sm as_ go sh_ ir oa ob th ig sp_ ki tg of_ kp sf rs), (aI g to_ 25 tl)] ++ he_pl g L ln (va_up (va_up Mj (r3 6) (upd (Mj (r3 6)) 0 (mwF tl (nI r) (nI c9)))) (r3 6) (upd ((va_up Mj (r3 6) (upd (Mj (r3 6)) 0 (mwF tl (nI r) (nI c9)))) (r3 6)) 1 (mwF tl (nI r) (nI c9))))) := hD
                          refine lv_aload hx hb dX11_offer_121 (lv_at hl 6 rfl) ?_
                          refine lv_iconst (v := 2) hx hb dX11_offer_123 (by decide) ?_
                          refine lv_iload hx hb dX11_offer_124 (lv_at hl 7 rfl) ?_
                          refine he_past hx hb hK hP hD hS (⟨(F_r3 6 (by decide)).1, (F_r3 6 (by decide)).2.1⟩ : r3 6 ∈ L ∧ ln (r3 6) = 7).1 (2) (by decide) (by rw [(⟨(F_r3 6 (by decide)).1, (F_r3 6 (by decide)).2.1⟩ : r3 6 ∈ L ∧ ln (r3 6) = 7).2]; exact (by decide)) (by rw [(⟨(F_r3 6 (by decide)).1, (F_r3 6 (by decide)).2.1⟩ : r3 6 ∈ L ∧ ln (r3 6) = 7).2]; decide) dX11_offer_126 (fun H locs hP hD hS => ?_)
                          have hP : va_P g.1 vwCl ([(aI g sm 25 F), (aM g wa 6 (he_ro 6 r2)), (aM g sh_ 120 (he_ro 120 r6)), (aM g cn 7 (he_ro 7 r3)), (aM g br 7 (he_ro 7 r4)), (aI g as_ 25 Gs), (oX11 m0 0 ta sz_ pl at_ fa fw cs fd rfm rt_ to_ rw_ wa ct rk rb cn br sm as_ go sh_ ir oa ob th ig sp_ ki tg of_ kp sf rs), (aI g to_ 25 tl)] ++ he_pl g L ln (va_up (va_up (va_up Mj (r3 6) (upd (Mj (r3 6)) 0 (mwF tl (nI r) (nI c9)))) (r3 6) (upd ((va_up Mj (r3 6) (upd (Mj (r3 6)) 0 (mwF tl (nI r) (nI c9)))) (r3 6)) 1 (mwF tl (nI r) (nI c9)))) (r3 6) (upd ((va_up (va_up Mj (r3 6) (upd (Mj (r3 6)) 0 (mwF tl (nI r) (nI c9)))) (r3 6) (upd ((va_up Mj (r3 6) (upd (Mj (r3 6)) 0 (mwF tl (nI r) (nI c9)))) (r3 6)) 1 (mwF tl (nI r) (nI c9)))) (r3 6)) 2 (nI r)))) H := hP
                          have hD : va_D A ([(aI g sm 25 F), (aM g wa 6 (he_ro 6 r2)), (aM g sh_ 120 (he_ro 120 r6)), (aM g cn 7 (he_ro 7 r3)), (aM g br 7 (he_ro 7 r4)), (aI g as_ 25 Gs), (oX11 m0 0 ta sz_ pl at_ fa fw cs fd rfm rt_ to_ rw_ wa ct rk rb cn br sm as_ go sh_ ir oa ob th ig sp_ ki tg of_ kp sf rs), (aI g to_ 25 tl)] ++ he_pl g L ln (va_up (va_up (va_up Mj (r3 6) (upd (Mj (r3 6)) 0 (mwF tl (nI r) (nI c9)))) (r3 6) (upd ((va_up Mj (r3 6) (upd (Mj (r3 6)) 0 (mwF tl (nI r) (nI c9)))) (r3 6)) 1 (mwF tl (nI r) (nI c9)))) (r3 6) (upd ((va_up (va_up Mj (r3 6) (upd (Mj (r3 6)) 0 (mwF tl (nI r) (nI c9)))) (r3 6) (upd ((va_up Mj (r3 6) (upd (Mj (r3 6)) 0 (mwF tl (nI r) (nI c9)))) (r3 6)) 1 (mwF tl (nI r) (nI c9)))) (r3 6)) 2 (nI r)))) := hD
                          refine lv_aload hx hb dX11_offer_127 (lv_at hl 6 rfl) ?_
                          refine lv_iconst (v := 3) hx hb dX11_offer_129 (by decide) ?_
                          refine lv_iload hx hb dX11_offer_130 (lv_at hl 8 rfl) ?_
                          refine he_past hx hb hK hP hD hS (⟨(F_r3 6 (by decide)).1, (F_r3 6 (by decide)).2.1⟩ : r3 6 ∈ L ∧ ln (r3 6) = 7).1 (3) (by decide) (by rw [(⟨(F_r3 6 (by decide)).1, (F_r3 6 (by decide)).2.1⟩ : r3 6 ∈ L ∧ ln (r3 6) = 7).2]; exact (by decide)) (by rw [(⟨(F_r3 6 (by decide)).1, (F_r3 6 (by decide)).2.1⟩ : r3 6 ∈ L ∧ ln (r3 6) = 7).2]; decide) dX11_offer_132 (fun H locs hP hD hS => ?_)
                          have hP : va_P g.1 vwCl ([(aI g sm 25 F), (aM g wa 6 (he_ro 6 r2)), (aM g sh_ 120 (he_ro 120 r6)), (aM g cn 7 (he_ro 7 r3)), (aM g br 7 (he_ro 7 r4)), (aI g as_ 25 Gs), (oX11 m0 0 ta sz_ pl at_ fa fw cs fd rfm rt_ to_ rw_ wa ct rk rb cn br sm as_ go sh_ ir oa ob th ig sp_ ki tg of_ kp sf rs), (aI g to_ 25 tl)] ++ he_pl g L ln (va_up (va_up (va_up (va_up Mj (r3 6) (upd (Mj (r3 6)) 0 (mwF tl (nI r) (nI c9)))) (r3 6) (upd ((va_up Mj (r3 6) (upd (Mj (r3 6)) 0 (mwF tl (nI r) (nI c9)))) (r3 6)) 1 (mwF tl (nI r) (nI c9)))) (r3 6) (upd ((va_up (va_up Mj (r3 6) (upd (Mj (r3 6)) 0 (mwF tl (nI r) (nI c9)))) (r3 6) (upd ((va_up Mj (r3 6) (upd (Mj (r3 6)) 0 (mwF tl (nI r) (nI c9)))) (r3 6)) 1 (mwF tl (nI r) (nI c9)))) (r3 6)) 2 (nI r))) (r3 6) (upd ((va_up (va_up (va_up Mj (r3 6) (upd (Mj (r3 6)) 0 (mwF tl (nI r) (nI c9)))) (r3 6) (upd ((va_up Mj (r3 6) (upd (Mj (r3 6)) 0 (mwF tl (nI r) (nI c9)))) (r3 6)) 1 (mwF tl (nI r) (nI c9)))) (r3 6) (upd ((va_up (va_up Mj (r3 6) (upd (Mj (r3 6)) 0 (mwF tl (nI r) (nI c9)))) (r3 6) (upd ((va_up Mj (r3 6) (upd (Mj (r3 6)) 0 (mwF tl (nI r) (nI c9)))) (r3 6)) 1 (mwF tl (nI r) (nI c9)))) (r3 6)) 2 (nI r))) (r3 6)) 3 (nI c9)))) H := hP
                          have hD : va_D A ([(aI g sm 25 F), (aM g wa 6 (he_ro 6 r2)), (aM g sh_ 120 (he_ro 120 r6)), (aM g cn 7 (he_ro 7 r3)), (aM g br 7 (he_ro 7 r4)), (aI g as_ 25 Gs), (oX11 m0 0 ta sz_ pl at_ fa fw cs fd rfm rt_ to_ rw_ wa ct rk rb cn br sm as_ go sh_ ir oa ob th ig sp_ ki tg of_ kp sf rs), (aI g to_ 25 tl)] ++ he_pl g L ln (va_up (va_up (va_up (va_up Mj (r3 6) (upd (Mj (r3 6)) 0 (mwF tl (nI r) (nI c9)))) (r3 6) (upd ((va_up Mj (r3 6) (upd (Mj (r3 6)) 0 (mwF tl (nI r) (nI c9)))) (r3 6)) 1 (mwF tl (nI r) (nI c9)))) (r3 6) (upd ((va_up (va_up Mj (r3 6) (upd (Mj (r3 6)) 0 (mwF tl (nI r) (nI c9)))) (r3 6) (upd ((va_up Mj (r3 6) (upd (Mj (r3 6)) 0 (mwF tl (nI r) (nI c9)))) (r3 6)) 1 (mwF tl (nI r) (nI c9)))) (r3 6)) 2 (nI r))) (r3 6) (upd ((va_up (va_up (va_up Mj (r3 6) (upd (Mj (r3 6)) 0 (mwF tl (nI r) (nI c9)))) (r3 6) (upd ((va_up Mj (r3 6) (upd (Mj (r3 6)) 0 (mwF tl (nI r) (nI c9)))) (r3 6)) 1 (mwF tl (nI r) (nI c9)))) (r3 6) (upd ((va_up (va_up Mj (r3 6) (upd (Mj (r3 6)) 0 (mwF tl (nI r) (nI c9)))) (r3 6) (upd ((va_up Mj (r3 6) (upd (Mj (r3 6)) 0 (mwF tl (nI r) (nI c9)))) (r3 6)) 1 (mwF tl (nI r) (nI c9)))) (r3 6)) 2 (nI r))) (r3 6)) 3 (nI c9)))) := hD
                          refine lv_aload hx hb dX11_offer_133 (lv_at hl 6 rfl) ?_
                          refine lv_iconst (v := 4) hx hb dX11_offer_135 (by decide) ?_
                          refine lv_iconst (v := 0) hx hb dX11_offer_136 (by decide) ?_
                          refine he_past hx hb hK hP hD hS (⟨(F_r3 6 (by decide)).1, (F_r3 6 (by decide)).2.1⟩ : r3 6 ∈ L ∧ ln (r3 6) = 7).1 (4) (by decide) (by rw [(⟨(F_r3 6 (by decide)).1, (F_r3 6 (by decide)).2.1⟩ : r3 6 ∈ L ∧ ln (r3 6) = 7).2]; exact (by decide)) (by rw [(⟨(F_r3 6 (by decide)).1, (F_r3 6 (by decide)).2.1⟩ : r3 6 ∈ L ∧ ln (r3 6) = 7).2]; decide) dX11_offer_137 (fun H locs hP hD hS => ?_)
                          have hP : va_P g.1 vwCl ([(aI g sm 25 F), (aM g wa 6 (he_ro 6 r2)), (aM g sh_ 120 (he_ro 120 r6)), (aM g cn 7 (he_ro 7 r3)), (aM g br 7 (he_ro 7 r4)), (aI g as_ 25 Gs), (oX11 m0 0 ta sz_ pl at_ fa fw cs fd rfm rt_ to_ rw_ wa ct rk rb cn br sm as_ go sh_ ir oa ob th ig sp_ ki tg of_ kp sf rs), (aI g to_ 25 tl)] ++ he_pl g L ln (va_up (va_up (va_up (va_up (va_up Mj (r3 6) (upd (Mj (r3 6)) 0 (mwF tl (nI r) (nI c9)))) (r3 6) (upd ((va_up Mj (r3 6) (upd (Mj (r3 6)) 0 (mwF tl (nI r) (nI c9)))) (r3 6)) 1 (mwF tl (nI r) (nI c9)))) (r3 6) (upd ((va_up (va_up Mj (r3 6) (upd (Mj (r3 6)) 0 (mwF tl (nI r) (nI c9)))) (r3 6) (upd ((va_up Mj (r3 6) (upd (Mj (r3 6)) 0 (mwF tl (nI r) (nI c9)))) (r3 6)) 1 (mwF tl (nI r) (nI c9)))) (r3 6)) 2 (nI r))) (r3 6) (upd ((va_up (va_up (va_up Mj (r3 6) (upd (Mj (r3 6)) 0 (mwF tl (nI r) (nI c9)))) (r3 6) (upd ((va_up Mj (r3 6) (upd (Mj (r3 6)) 0 (mwF tl (nI r) (nI c9)))) (r3 6)) 1 (mwF tl (nI r) (nI c9)))) (r3 6) (upd ((va_up (va_up Mj (r3 6) (upd (Mj (r3 6)) 0 (mwF tl (nI r) (nI c9)))) (r3 6) (upd ((va_up Mj (r3 6) (upd (Mj (r3 6)) 0 (mwF tl (nI r) (nI c9)))) (r3 6)) 1 (mwF tl (nI r) (nI c9)))) (r3 6)) 2 (nI r))) (r3 6)) 3 (nI c9))) (r3 6) (upd ((va_up (va_up (va_up (va_up Mj (r3 6) (upd (Mj (r3 6)) 0 (mwF tl (nI r) (nI c9)))) (r3 6) (upd ((va_up Mj (r3 6) (upd (Mj (r3 6)) 0 (mwF tl (nI r) (nI c9)))) (r3 6)) 1 (mwF tl (nI r) (nI c9)))) (r3 6) (upd ((va_up (va_up Mj (r3 6) (upd (Mj (r3 6)) 0 (mwF tl (nI r) (nI c9)))) (r3 6) (upd ((va_up Mj (r3 6) (upd (Mj (r3 6)) 0 (mwF tl (nI r) (nI c9)))) (r3 6)) 1 (mwF tl (nI r) (nI c9)))) (r3 6)) 2 (nI r))) (r3 6) (upd ((va_up (va_up (va_up Mj (r3 6) (upd (Mj (r3 6)) 0 (mwF tl (nI r) (nI c9)))) (r3 6) (upd ((va_up Mj (r3 6) (upd (Mj (r3 6)) 0 (mwF tl (nI r) (nI c9)))) (r3 6)) 1 (mwF tl (nI r) (nI c9)))) (r3 6) (upd ((va_up (va_up Mj (r3 6) (upd (Mj (r3 6)) 0 (mwF tl (nI r) (nI c9)))) (r3 6) (upd ((va_up Mj (r3 6) (upd (Mj (r3 6)) 0 (mwF tl (nI r) (nI c9)))) (r3 6)) 1 (mwF tl (nI r) (nI c9)))) (r3 6)) 2 (nI r))) (r3 6)) 3 (nI c9))) (r3 6)) 4 0))) H := hP
                          have hD : va_D A ([(aI g sm 25 F), (aM g wa 6 (he_ro 6 r2)), (aM g sh_ 120 (he_ro 120 r6)), (aM g cn 7 (he_ro 7 r3)), (aM g br 7 (he_ro 7 r4)), (aI g as_ 25 Gs), (oX11 m0 0 ta sz_ pl at_ fa fw cs fd rfm rt_ to_ rw_ wa ct rk rb cn br sm as_ go sh_ ir oa ob th ig sp_ ki tg of_ kp sf rs), (aI g to_ 25 tl)] ++ he_pl g L ln (va_up (va_up (va_up (va_up (va_up Mj (r3 6) (upd (Mj (r3 6)) 0 (mwF tl (nI r) (nI c9)))) (r3 6) (upd ((va_up Mj (r3 6) (upd (Mj (r3 6)) 0 (mwF tl (nI r) (nI c9)))) (r3 6)) 1 (mwF tl (nI r) (nI c9)))) (r3 6) (upd ((va_up (va_up Mj (r3 6) (upd (Mj (r3 6)) 0 (mwF tl (nI r) (nI c9)))) (r3 6) (upd ((va_up Mj (r3 6) (upd (Mj (r3 6)) 0 (mwF tl (nI r) (nI c9)))) (r3 6)) 1 (mwF tl (nI r) (nI c9)))) (r3 6)) 2 (nI r))) (r3 6) (upd ((va_up (va_up (va_up Mj (r3 6) (upd (Mj (r3 6)) 0 (mwF tl (nI r) (nI c9)))) (r3 6) (upd ((va_up Mj (r3 6) (upd (Mj (r3 6)) 0 (mwF tl (nI r) (nI c9)))) (r3 6)) 1 (mwF tl (nI r) (nI c9)))) (r3 6) (upd ((va_up (va_up Mj (r3 6) (upd (Mj (r3 6)) 0 (mwF tl (nI r) (nI c9)))) (r3 6) (upd ((va_up Mj (r3 6) (upd (Mj (r3 6)) 0 (mwF tl (nI r) (nI c9)))) (r3 6)) 1 (mwF tl (nI r) (nI c9)))) (r3 6)) 2 (nI r))) (r3 6)) 3 (nI c9))) (r3 6) (upd ((va_up (va_up (va_up (va_up Mj (r3 6) (upd (Mj (r3 6)) 0 (mwF tl (nI r) (nI c9)))) (r3 6) (upd ((va_up Mj (r3 6) (upd (Mj (r3 6)) 0 (mwF tl (nI r) (nI c9)))) (r3 6)) 1 (mwF tl (nI r) (nI c9)))) (r3 6) (upd ((va_up (va_up Mj (r3 6) (upd (Mj (r3 6)) 0 (mwF tl (nI r) (nI c9)))) (r3 6) (upd ((va_up Mj (r3 6) (upd (Mj (r3 6)) 0 (mwF tl (nI r) (nI c9)))) (r3 6)) 1 (mwF tl (nI r) (nI c9)))) (r3 6)) 2 (nI r))) (r3 6) (upd ((va_up (va_up (va_up Mj (r3 6) (upd (Mj (r3 6)) 0 (mwF tl (nI r) (nI c9)))) (r3 6) (upd ((va_up Mj (r3 6) (upd (Mj (r3 6)) 0 (mwF tl (nI r) (nI c9)))) (r3 6)) 1 (mwF tl (nI r) (nI c9)))) (r3 6) (upd ((va_up (va_up Mj (r3 6) (upd (Mj (r3 6)) 0 (mwF tl (nI r) (nI c9)))) (r3 6) (upd ((va_up Mj (r3 6) (upd (Mj (r3 6)) 0 (mwF tl (nI r) (nI c9)))) (r3 6)) 1 (mwF tl (nI r) (nI c9)))) (r3 6)) 2 (nI r))) (r3 6)) 3 (nI c9))) (r3 6)) 4 0))) := hD
                          refine lv_aload hx hb dX11_offer_138 (lv_at hl 6 rfl) ?_
                          refine lv_iconst (v := 5) hx hb dX11_offer_140 (by decide) ?_
                          refine lv_sipush (v := 1000) hx hb dX11_offer_141 (by decide) ?_
                          refine he_past hx hb hK hP hD hS (⟨(F_r3 6 (by decide)).1, (F_r3 6 (by decide)).2.1⟩ : r3 6 ∈ L ∧ ln (r3 6) = 7).1 (5) (by decide) (by rw [(⟨(F_r3 6 (by decide)).1, (F_r3 6 (by decide)).2.1⟩ : r3 6 ∈ L ∧ ln (r3 6) = 7).2]; exact (by decide)) (by rw [(⟨(F_r3 6 (by decide)).1, (F_r3 6 (by decide)).2.1⟩ : r3 6 ∈ L ∧ ln (r3 6) = 7).2]; decide) dX11_offer_144 (fun H locs hP hD hS => ?_)
                          have hP : va_P g.1 vwCl ([(aI g sm 25 F), (aM g wa 6 (he_ro 6 r2)), (aM g sh_ 120 (he_ro 120 r6)), (aM g cn 7 (he_ro 7 r3)), (aM g br 7 (he_ro 7 r4)), (aI g as_ 25 Gs), (oX11 m0 0 ta sz_ pl at_ fa fw cs fd rfm rt_ to_ rw_ wa ct rk rb cn br sm as_ go sh_ ir oa ob th ig sp_ ki tg of_ kp sf rs), (aI g to_ 25 tl)] ++ he_pl g L ln (va_up (va_up (va_up (va_up (va_up (va_up Mj (r3 6) (upd (Mj (r3 6)) 0 (mwF tl (nI r) (nI c9)))) (r3 6) (upd ((va_up Mj (r3 6) (upd (Mj (r3 6)) 0 (mwF tl (nI r) (nI c9)))) (r3 6)) 1 (mwF tl (nI r) (nI c9)))) (r3 6) (upd ((va_up (va_up Mj (r3 6) (upd (Mj (r3 6)) 0 (mwF tl (nI r) (nI c9)))) (r3 6) (upd ((va_up Mj (r3 6) (upd (Mj (r3 6)) 0 (mwF tl (nI r) (nI c9)))) (r3 6)) 1 (mwF tl (nI r) (nI c9)))) (r3 6)) 2 (nI r))) (r3 6) (upd ((va_up (va_up (va_up Mj (r3 6) (upd (Mj (r3 6)) 0 (mwF tl (nI r) (nI c9)))) (r3 6) (upd ((va_up Mj (r3 6) (upd (Mj (r3 6)) 0 (mwF tl (nI r) (nI c9)))) (r3 6)) 1 (mwF tl (nI r) (nI c9)))) (r3 6) (upd ((va_up (va_up Mj (r3 6) (upd (Mj (r3 6)) 0 (mwF tl (nI r) (nI c9)))) (r3 6) (upd ((va_up Mj (r3 6) (upd (Mj (r3 6)) 0 (mwF tl (nI r) (nI c9)))) (r3 6)) 1 (mwF tl (nI r) (nI c9)))) (r3 6)) 2 (nI r))) (r3 6)) 3 (nI c9))) (r3 6) (upd ((va_up (va_up (va_up (va_up Mj (r3 6) (upd (Mj (r3 6)) 0 (mwF tl (nI r) (nI c9)))) (r3 6) (upd ((va_up Mj (r3 6) (upd (Mj (r3 6)) 0 (mwF tl (nI r) (nI c9)))) (r3 6)) 1 (mwF tl (nI r) (nI c9)))) (r3 6) (upd ((va_up (va_up Mj (r3 6) (upd (Mj (r3 6)) 0 (mwF tl (nI r) (nI c9)))) (r3 6) (upd ((va_up Mj (r3 6) (upd (Mj (r3 6)) 0 (mwF tl (nI r) (nI c9)))) (r3 6)) 1 (mwF tl (nI r) (nI c9)))) (r3 6)) 2 (nI r))) (r3 6) (upd ((va_up (va_up (va_up Mj (r3 6) (upd (Mj (r3 6)) 0 (mwF tl (nI r) (nI c9)))) (r3 6) (upd ((va_up Mj (r3 6) (upd (Mj (r3 6)) 0 (mwF tl (nI r) (nI c9)))) (r3 6)) 1 (mwF tl (nI r) (nI c9)))) (r3 6) (upd ((va_up (va_up Mj (r3 6) (upd (Mj (r3 6)) 0 (mwF tl (nI r) (nI c9)))) (r3 6) (upd ((va_up Mj (r3 6) (upd (Mj (r3 6)) 0 (mwF tl (nI r) (nI c9)))) (r3 6)) 1 (mwF tl (nI r) (nI c9)))) (r3 6)) 2 (nI r))) (r3 6)) 3 (nI c9))) (r3 6)) 4 0)) (r3 6) (upd ((va_up (va_up (va_up (va_up (va_up Mj (r3 6) (upd (Mj (r3 6)) 0 (mwF tl (nI r) (nI c9)))) (r3 6) (upd ((va_up Mj (r3 6) (upd (Mj (r3 6)) 0 (mwF tl (nI r) (nI c9)))) (r3 6)) 1 (mwF tl (nI r) (nI c9)))) (r3 6) (upd ((va_up (va_up Mj (r3 6) (upd (Mj (r3 6)) 0 (mwF tl (nI r) (nI c9)))) (r3 6) (upd ((va_up Mj (r3 6) (upd (Mj (r3 6)) 0 (mwF tl (nI r) (nI c9)))) (r3 6)) 1 (mwF tl (nI r) (nI c9)))) (r3 6)) 2 (nI r))) (r3 6) (upd ((va_up (va_up (va_up Mj (r3 6) (upd (Mj (r3 6)) 0 (mwF tl (nI r) (nI c9)))) (r3 6) (upd ((va_up Mj (r3 6) (upd (Mj (r3 6)) 0 (mwF tl (nI r) (nI c9)))) (r3 6)) 1 (mwF tl (nI r) (nI c9)))) (r3 6) (upd ((va_up (va_up Mj (r3 6) (upd (Mj (r3 6)) 0 (mwF tl (nI r) (nI c9)))) (r3 6) (upd ((va_up Mj (r3 6) (upd (Mj (r3 6)) 0 (mwF tl (nI r) (nI c9)))) (r3 6)) 1 (mwF tl (nI r) (nI c9)))) (r3 6)) 2 (nI r))) (r3 6)) 3 (nI c9))) (r3 6) (upd ((va_up (va_up (va_up (va_up Mj (r3 6) (upd (Mj (r3 6)) 0 (mwF tl (nI r) (nI c9)))) (r3 6) (upd ((va_up Mj (r3 6) (upd (Mj (r3 6)) 0 (mwF tl (nI r) (nI c9)))) (r3 6)) 1 (mwF tl (nI r) (nI c9)))) (r3 6) (upd ((va_up (va_up Mj (r3 6) (upd (Mj (r3 6)) 0 (mwF tl (nI r) (nI c9)))) (r3 6) (upd ((va_up Mj (r3 6) (upd (Mj (r3 6)) 0 (mwF tl (nI r) (nI c9)))) (r3 6)) 1 (mwF tl (nI r) (nI c9)))) (r3 6)) 2 (nI r))) (r3 6) (upd ((va_up (va_up (va_up Mj (r3 6) (upd (Mj (r3 6)) 0 (mwF tl (nI r) (nI c9)))) (r3 6) (upd ((va_up Mj (r3 6) (upd (Mj (r3 6)) 0 (mwF tl (nI r) (nI c9)))) (r3 6)) 1 (mwF tl (nI r) (nI c9)))) (r3 6) (upd ((va_up (va_up Mj (r3 6) (upd (Mj (r3 6)) 0 (mwF tl (nI r) (nI c9)))) (r3 6) (upd ((va_up Mj (r3 6) (upd (Mj (r3 6)) 0 (mwF tl (nI r) (nI c9)))) (r3 6)) 1 (mwF tl (nI r) (nI c9)))) (r3 6)) 2 (nI r))) (r3 6)) 3 (nI c9))) (r3 6)) 4 0)) (r3 6)) 5 1000))) H := hP
                          have hD : va_D A ([(aI g sm 25 F), (aM g wa 6 (he_ro 6 r2)), (aM g sh_ 120 (he_ro 120 r6)), (aM g cn 7 (he_ro 7 r3)), (aM g br 7 (he_ro 7 r4)), (aI g as_ 25 Gs), (oX11 m0 0 ta sz_ pl at_ fa fw cs fd rfm rt_ to_ rw_ wa ct rk rb cn br sm as_ go sh_ ir oa ob th ig sp_ ki tg of_ kp sf rs), (aI g to_ 25 tl)] ++ he_pl g L ln (va_up (va_up (va_up (va_up (va_up (va_up Mj (r3 6) (upd (Mj (r3 6)) 0 (mwF tl (nI r) (nI c9)))) (r3 6) (upd ((va_up Mj (r3 6) (upd (Mj (r3 6)) 0 (mwF tl (nI r) (nI c9)))) (r3 6)) 1 (mwF tl (nI r) (nI c9)))) (r3 6) (upd ((va_up (va_up Mj (r3 6) (upd (Mj (r3 6)) 0 (mwF tl (nI r) (nI c9)))) (r3 6) (upd ((va_up Mj (r3 6) (upd (Mj (r3 6)) 0 (mwF tl (nI r) (nI c9)))) (r3 6)) 1 (mwF tl (nI r) (nI c9)))) (r3 6)) 2 (nI r))) (r3 6) (upd ((va_up (va_up (va_up Mj (r3 6) (upd (Mj (r3 6)) 0 (mwF tl (nI r) (nI c9)))) (r3 6) (upd ((va_up Mj (r3 6) (upd (Mj (r3 6)) 0 (mwF tl (nI r) (nI c9)))) (r3 6)) 1 (mwF tl (nI r) (nI c9)))) (r3 6) (upd ((va_up (va_up Mj (r3 6) (upd (Mj (r3 6)) 0 (mwF tl (nI r) (nI c9)))) (r3 6) (upd ((va_up Mj (r3 6) (upd (Mj (r3 6)) 0 (mwF tl (nI r) (nI c9)))) (r3 6)) 1 (mwF tl (nI r) (nI c9)))) (r3 6)) 2 (nI r))) (r3 6)) 3 (nI c9))) (r3 6) (upd ((va_up (va_up (va_up (va_up Mj (r3 6) (upd (Mj (r3 6)) 0 (mwF tl (nI r) (nI c9)))) (r3 6) (upd ((va_up Mj (r3 6) (upd (Mj (r3 6)) 0 (mwF tl (nI r) (nI c9)))) (r3 6)) 1 (mwF tl (nI r) (nI c9)))) (r3 6) (upd ((va_up (va_up Mj (r3 6) (upd (Mj (r3 6)) 0 (mwF tl (nI r) (nI c9)))) (r3 6) (upd ((va_up Mj (r3 6) (upd (Mj (r3 6)) 0 (mwF tl (nI r) (nI c9)))) (r3 6)) 1 (mwF tl (nI r) (nI c9)))) (r3 6)) 2 (nI r))) (r3 6) (upd ((va_up (va_up (va_up Mj (r3 6) (upd (Mj (r3 6)) 0 (mwF tl (nI r) (nI c9)))) (r3 6) (upd ((va_up Mj (r3 6) (upd (Mj (r3 6)) 0 (mwF tl (nI r) (nI c9)))) (r3 6)) 1 (mwF tl (nI r) (nI c9)))) (r3 6) (upd ((va_up (va_up Mj (r3 6) (upd (Mj (r3 6)) 0 (mwF tl (nI r) (nI c9)))) (r3 6) (upd ((va_up Mj (r3 6) (upd (Mj (r3 6)) 0 (mwF tl (nI r) (nI c9)))) (r3 6)) 1 (mwF tl (nI r) (nI c9)))) (r3 6)) 2 (nI r))) (r3 6)) 3 (nI c9))) (r3 6)) 4 0)) (r3 6) (upd ((va_up (va_up (va_up (va_up (va_up Mj (r3 6) (upd (Mj (r3 6)) 0 (mwF tl (nI r) (nI c9)))) (r3 6) (upd ((va_up Mj (r3 6) (upd (Mj (r3 6)) 0 (mwF tl (nI r) (nI c9)))) (r3 6)) 1 (mwF tl (nI r) (nI c9)))) (r3 6) (upd ((va_up (va_up Mj (r3 6) (upd (Mj (r3 6)) 0 (mwF tl (nI r) (nI c9)))) (r3 6) (upd ((va_up Mj (r3 6) (upd (Mj (r3 6)) 0 (mwF tl (nI r) (nI c9)))) (r3 6)) 1 (mwF tl (nI r) (nI c9)))) (r3 6)) 2 (nI r))) (r3 6) (upd ((va_up (va_up (va_up Mj (r3 6) (upd (Mj (r3 6)) 0 (mwF tl (nI r) (nI c9)))) (r3 6) (upd ((va_up Mj (r3 6) (upd (Mj (r3 6)) 0 (mwF tl (nI r) (nI c9)))) (r3 6)) 1 (mwF tl (nI r) (nI c9)))) (r3 6) (upd ((va_up (va_up Mj (r3 6) (upd (Mj (r3 6)) 0 (mwF tl (nI r) (nI c9)))) (r3 6) (upd ((va_up Mj (r3 6) (upd (Mj (r3 6)) 0 (mwF tl (nI r) (nI c9)))) (r3 6)) 1 (mwF tl (nI r) (nI c9)))) (r3 6)) 2 (nI r))) (r3 6)) 3 (nI c9))) (r3 6) (upd ((va_up (va_up (va_up (va_up Mj (r3 6) (upd (Mj (r3 6)) 0 (mwF tl (nI r) (nI c9)))) (r3 6) (upd ((va_up Mj (r3 6) (upd (Mj (r3 6)) 0 (mwF tl (nI r) (nI c9)))) (r3 6)) 1 (mwF tl (nI r) (nI c9)))) (r3 6) (upd ((va_up (va_up Mj (r3 6) (upd (Mj (r3 6)) 0 (mwF tl (nI r) (nI c9)))) (r3 6) (upd ((va_up Mj (r3 6) (upd (Mj (r3 6)) 0 (mwF tl (nI r) (nI c9)))) (r3 6)) 1 (mwF tl (nI r) (nI c9)))) (r3 6)) 2 (nI r))) (r3 6) (upd ((va_up (va_up (va_up Mj (r3 6) (upd (Mj (r3 6)) 0 (mwF tl (nI r) (nI c9)))) (r3 6) (upd ((va_up Mj (r3 6) (upd (Mj (r3 6)) 0 (mwF tl (nI r) (nI c9)))) (r3 6)) 1 (mwF tl (nI r) (nI c9)))) (r3 6) (upd ((va_up (va_up Mj (r3 6) (upd (Mj (r3 6)) 0 (mwF tl (nI r) (nI c9)))) (r3 6) (upd ((va_up Mj (r3 6) (upd (Mj (r3 6)) 0 (mwF tl (nI r) (nI c9)))) (r3 6)) 1 (mwF tl (nI r) (nI c9)))) (r3 6)) 2 (nI r))) (r3 6)) 3 (nI c9))) (r3 6)) 4 0)) (r3 6)) 5 1000))) := hD
                          refine lv_aload_n hx hb dX11_offer_145 rfl (lv_at hl 0 rfl) ?_
                          refine lv_iload_n hx hb dX11_offer_146 rfl (lv_at hl 1 rfl) ?_
                          refine he_ci (wc := ([(oX11 m0 0 ta sz_ pl at_ fa fw cs fd rfm rt_ to_ rw_ wa ct rk rb cn br sm as_ go sh_ ir oa ob th ig sp_ ki tg of_ kp sf rs), (aI g to_ 25 tl), (aI g sm 25 F), (aM g wa 6 (he_ro 6 r2)), (aM g sh_ 120 (he_ro 120 r6)), (aM g cn 7 (he_ro 7 r3)), (aM g br 7 (he_ro 7 r4)), (aI g as_ 25 Gs)] ++ (he_pl g L ln (va_up (va_up (va_up (va_up (va_up (va_up Mj (r3 6) (upd (Mj (r3 6)) 0 (mwF tl (nI r) (nI c9)))) (r3 6) (upd ((va_up Mj (r3 6) (upd (Mj (r3 6)) 0 (mwF tl (nI r) (nI c9)))) (r3 6)) 1 (mwF tl (nI r) (nI c9)))) (r3 6) (upd ((va_up (va_up Mj (r3 6) (upd (Mj (r3 6)) 0 (mwF tl (nI r) (nI c9)))) (r3 6) (upd ((va_up Mj (r3 6) (upd (Mj (r3 6)) 0 (mwF tl (nI r) (nI c9)))) (r3 6)) 1 (mwF tl (nI r) (nI c9)))) (r3 6)) 2 (nI r))) (r3 6) (upd ((va_up (va_up (va_up Mj (r3 6) (upd (Mj (r3 6)) 0 (mwF tl (nI r) (nI c9)))) (r3 6) (upd ((va_up Mj (r3 6) (upd (Mj (r3 6)) 0 (mwF tl (nI r) (nI c9)))) (r3 6)) 1 (mwF tl (nI r) (nI c9)))) (r3 6) (upd ((va_up (va_up Mj (r3 6) (upd (Mj (r3 6)) 0 (mwF tl (nI r) (nI c9)))) (r3 6) (upd ((va_up Mj (r3 6) (upd (Mj (r3 6)) 0 (mwF tl (nI r) (nI c9)))) (r3 6)) 1 (mwF tl (nI r) (nI c9)))) (r3 6)) 2 (nI r))) (r3 6)) 3 (nI c9))) (r3 6) (upd ((va_up (va_up (va_up (va_up Mj (r3 6) (upd (Mj (r3 6)) 0 (mwF tl (nI r) (nI c9)))) (r3 6) (upd ((va_up Mj (r3 6) (upd (Mj (r3 6)) 0 (mwF tl (nI r) (nI c9)))) (r3 6)) 1 (mwF tl (nI r) (nI c9)))) (r3 6) (upd ((va_up (va_up Mj (r3 6) (upd (Mj (r3 6)) 0 (mwF tl (nI r) (nI c9)))) (r3 6) (upd ((va_up Mj (r3 6) (upd (Mj (r3 6)) 0 (mwF tl (nI r) (nI c9)))) (r3 6)) 1 (mwF tl (nI r) (nI c9)))) (r3 6)) 2 (nI r))) (r3 6) (upd ((va_up (va_up (va_up Mj (r3 6) (upd (Mj (r3 6)) 0 (mwF tl (nI r) (nI c9)))) (r3 6) (upd ((va_up Mj (r3 6) (upd (Mj (r3 6)) 0 (mwF tl (nI r) (nI c9)))) (r3 6)) 1 (mwF tl (nI r) (nI c9)))) (r3 6) (upd ((va_up (va_up Mj (r3 6) (upd (Mj (r3 6)) 0 (mwF tl (nI r) (nI c9)))) (r3 6) (upd ((va_up Mj (r3 6) (upd (Mj (r3 6)) 0 (mwF tl (nI r) (nI c9)))) (r3 6)) 1 (mwF tl (nI r) (nI c9)))) (r3 6)) 2 (nI r))) (r3 6)) 3 (nI c9))) (r3 6)) 4 0)) (r3 6) (upd ((va_up (va_up (va_up (va_up (va_up Mj (r3 6) (upd (Mj (r3 6)) 0 (mwF tl (nI r) (nI c9)))) (r3 6) (upd ((va_up Mj (r3 6) (upd (Mj (r3 6)) 0 (mwF tl (nI r) (nI c9)))) (r3 6)) 1 (mwF tl (nI r) (nI c9)))) (r3 6) (upd ((va_up (va_up Mj (r3 6) (upd (Mj (r3 6)) 0 (mwF tl (nI r) (nI c9)))) (r3 6) (upd ((va_up Mj (r3 6) (upd (Mj (r3 6)) 0 (mwF tl (nI r) (nI c9)))) (r3 6)) 1 (mwF tl (nI r) (nI c9)))) (r3 6)) 2 (nI r))) (r3 6) (upd ((va_up (va_up (va_up Mj (r3 6) (upd (Mj (r3 6)) 0 (mwF tl (nI r) (nI c9)))) (r3 6) (upd ((va_up Mj (r3 6) (upd (Mj (r3 6)) 0 (mwF tl (nI r) (nI c9)))) (r3 6)) 1 (mwF tl (nI r) (nI c9)))) (r3 6) (upd ((va_up (va_up Mj (r3 6) (upd (Mj (r3 6)) 0 (mwF tl (nI r) (nI c9)))) (r3 6) (upd ((va_up Mj (r3 6) (upd (Mj (r3 6)) 0 (mwF tl (nI r) (nI c9)))) (r3 6)) 1 (mwF tl (nI r) (nI c9)))) (r3 6)) 2 (nI r))) (r3 6)) 3 (nI c9))) (r3 6) (upd ((va_up (va_up (va_up (va_up Mj (r3 6) (upd (Mj (r3 6)) 0 (mwF tl (nI r) (nI c9)))) (r3 6) (upd ((va_up Mj (r3 6) (upd (Mj (r3 6)) 0 (mwF tl (nI r) (nI c9)))) (r3 6)) 1 (mwF tl (nI r) (nI c9)))) (r3 6) (upd ((va_up (va_up Mj (r3 6) (upd (Mj (r3 6)) 0 (mwF tl (nI r) (nI c9)))) (r3 6) (upd ((va_up Mj (r3 6) (upd (Mj (r3 6)) 0 (mwF tl (nI r) (nI c9)))) (r3 6)) 1 (mwF tl (nI r) (nI c9)))) (r3 6)) 2 (nI r))) (r3 6) (upd ((va_up (va_up (va_up Mj (r3 6) (upd (Mj (r3 6)) 0 (mwF tl (nI r) (nI c9)))) (r3 6) (upd ((va_up Mj (r3 6) (upd (Mj (r3 6)) 0 (mwF tl (nI r) (nI c9)))) (r3 6)) 1 (mwF tl (nI r) (nI c9)))) (r3 6) (upd ((va_up (va_up Mj (r3 6) (upd (Mj (r3 6)) 0 (mwF tl (nI r) (nI c9)))) (r3 6) (upd ((va_up Mj (r3 6) (upd (Mj (r3 6)) 0 (mwF tl (nI r) (nI c9)))) (r3 6)) 1 (mwF tl (nI r) (nI c9)))) (r3 6)) 2 (nI r))) (r3 6)) 3 (nI c9))) (r3 6)) 4 0)) (r3 6)) 5 1000))))) (wr := []) (va_runV (As := [.int (nI n)]) (rest := []) ⟨hx, hb, hml, hown, hts⟩ (h_X11_byOffer l g m0 fd rfm rt_ to_ rw_ wa rk rb cn br sm as_ go sh_ ki tg of_ kp rs ta sz_ pl at_ fa fw cs ct ir oa ob th ig sp_ sf 0 tl F Gs w L ln (va_up (va_up (va_up (va_up (va_up (va_up Mj (r3 6) (upd (Mj (r3 6)) 0 (mwF tl (nI r) (nI c9)))) (r3 6) (upd ((va_up Mj (r3 6) (upd (Mj (r3 6)) 0 (mwF tl (nI r) (nI c9)))) (r3 6)) 1 (mwF tl (nI r) (nI c9)))) (r3 6) (upd ((va_up (va_up Mj (r3 6) (upd (Mj (r3 6)) 0 (mwF tl (nI r) (nI c9)))) (r3 6) (upd ((va_up Mj (r3 6) (upd (Mj (r3 6)) 0 (mwF tl (nI r) (nI c9)))) (r3 6)) 1 (mwF tl (nI r) (nI c9)))) (r3 6)) 2 (nI r))) (r3 6) (upd ((va_up (va_up (va_up Mj (r3 6) (upd (Mj (r3 6)) 0 (mwF tl (nI r) (nI c9)))) (r3 6) (upd ((va_up Mj (r3 6) (upd (Mj (r3 6)) 0 (mwF tl (nI r) (nI c9)))) (r3 6)) 1 (mwF tl (nI r) (nI c9)))) (r3 6) (upd ((va_up (va_up Mj (r3 6) (upd (Mj (r3 6)) 0 (mwF tl (nI r) (nI c9)))) (r3 6) (upd ((va_up Mj (r3 6) (upd (Mj (r3 6)) 0 (mwF tl (nI r) (nI c9)))) (r3 6)) 1 (mwF tl (nI r) (nI c9)))) (r3 6)) 2 (nI r))) (r3 6)) 3 (nI c9))) (r3 6) (upd ((va_up (va_up (va_up (va_up Mj (r3 6) (upd (Mj (r3 6)) 0 (mwF tl (nI r) (nI c9)))) (r3 6) (upd ((va_up Mj (r3 6) (upd (Mj (r3 6)) 0 (mwF tl (nI r) (nI c9)))) (r3 6)) 1 (mwF tl (nI r) (nI c9)))) (r3 6) (upd ((va_up (va_up Mj (r3 6) (upd (Mj (r3 6)) 0 (mwF tl (nI r) (nI c9)))) (r3 6) (upd ((va_up Mj (r3 6) (upd (Mj (r3 6)) 0 (mwF tl (nI r) (nI c9)))) (r3 6)) 1 (mwF tl (nI r) (nI c9)))) (r3 6)) 2 (nI r))) (r3 6) (upd ((va_up (va_up (va_up Mj (r3 6) (upd (Mj (r3 6)) 0 (mwF tl (nI r) (nI c9)))) (r3 6) (upd ((va_up Mj (r3 6) (upd (Mj (r3 6)) 0 (mwF tl (nI r) (nI c9)))) (r3 6)) 1 (mwF tl (nI r) (nI c9)))) (r3 6) (upd ((va_up (va_up Mj (r3 6) (upd (Mj (r3 6)) 0 (mwF tl (nI r) (nI c9)))) (r3 6) (upd ((va_up Mj (r3 6) (upd (Mj (r3 6)) 0 (mwF tl (nI r) (nI c9)))) (r3 6)) 1 (mwF tl (nI r) (nI c9)))) (r3 6)) 2 (nI r))) (r3 6)) 3 (nI c9))) (r3 6)) 4 0)) (r3 6) (upd ((va_up (va_up (va_up (va_up (va_up Mj (r3 6) (upd (Mj (r3 6)) 0 (mwF tl (nI r) (nI c9)))) (r3 6) (upd ((va_up Mj (r3 6) (upd (Mj (r3 6)) 0 (mwF tl (nI r) (nI c9)))) (r3 6)) 1 (mwF tl (nI r) (nI c9)))) (r3 6) (upd ((va_up (va_up Mj (r3 6) (upd (Mj (r3 6)) 0 (mwF tl (nI r) (nI c9)))) (r3 6) (upd ((va_up Mj (r3 6) (upd (Mj (r3 6)) 0 (mwF tl (nI r) (nI c9)))) (r3 6)) 1 (mwF tl (nI r) (nI c9)))) (r3 6)) 2 (nI r))) (r3 6) (upd ((va_up (va_up (va_up Mj (r3 6) (upd (Mj (r3 6)) 0 (mwF tl (nI r) (nI c9)))) (r3 6) (upd ((va_up Mj (r3 6) (upd (Mj (r3 6)) 0 (mwF tl (nI r) (nI c9)))) (r3 6)) 1 (mwF tl (nI r) (nI c9)))) (r3 6) (upd ((va_up (va_up Mj (r3 6) (upd (Mj (r3 6)) 0 (mwF tl (nI r) (nI c9)))) (r3 6) (upd ((va_up Mj (r3 6) (upd (Mj (r3 6)) 0 (mwF tl (nI r) (nI c9)))) (r3 6)) 1 (mwF tl (nI r) (nI c9)))) (r3 6)) 2 (nI r))) (r3 6)) 3 (nI c9))) (r3 6) (upd ((va_up (va_up (va_up (va_up Mj (r3 6) (upd (Mj (r3 6)) 0 (mwF tl (nI r) (nI c9)))) (r3 6) (upd ((va_up Mj (r3 6) (upd (Mj (r3 6)) 0 (mwF tl (nI r) (nI c9)))) (r3 6)) 1 (mwF tl (nI r) (nI c9)))) (r3 6) (upd ((va_up (va_up Mj (r3 6) (upd (Mj (r3 6)) 0 (mwF tl (nI r) (nI c9)))) (r3 6) (upd ((va_up Mj (r3 6) (upd (Mj (r3 6)) 0 (mwF tl (nI r) (nI c9)))) (r3 6)) 1 (mwF tl (nI r) (nI c9)))) (r3 6)) 2 (nI r))) (r3 6) (upd ((va_up (va_up (va_up Mj (r3 6) (upd (Mj (r3 6)) 0 (mwF tl (nI r) (nI c9)))) (r3 6) (upd ((va_up Mj (r3 6) (upd (Mj (r3 6)) 0 (mwF tl (nI r) (nI c9)))) (r3 6)) 1 (mwF tl (nI r) (nI c9)))) (r3 6) (upd ((va_up (va_up Mj (r3 6) (upd (Mj (r3 6)) 0 (mwF tl (nI r) (nI c9)))) (r3 6) (upd ((va_up Mj (r3 6) (upd (Mj (r3 6)) 0 (mwF tl (nI r) (nI c9)))) (r3 6)) 1 (mwF tl (nI r) (nI c9)))) (r3 6)) 2 (nI r))) (r3 6)) 3 (nI c9))) (r3 6)) 4 0)) (r3 6)) 5 1000)) r2 r3 r4 r6 r c9 mm n (by first | assumption | decide | omega) (by first | assumption | decide | omega) (bN_ok (bN_3 (D_r3_r4 6 6 (by decide) (by decide)) (bN_3 (D_r3_r4 6 6 (by decide) (by decide)) (bN_3 (D_r3_r4 6 6 (by decide) (by decide)) (bN_3 (D_r3_r4 6 6 (by decide) (by decide)) (bN_3 (D_r3_r4 6 6 (by decide) (by decide)) (bN_3 (D_r3_r4 6 6 (by decide) (by decide)) hbn _) _) _) _) _) _)) (by simp [va_up, upd]) (by omega) (by simp [va_up, upd]) (by omega) (by simp [va_up, upd]; rfl) (a25_24 hF h24) (by omega) (by first | assumption | decide | omega) (by first | assumption | decide | omega) (by first | assumption | decide | omega) (by first | assumption | decide | omega) (by first | assumption | decide | omega) (by first | assumption | decide | omega) (by first | assumption | decide | omega) H.size) (cwV 1 hts gX11_offer_X11_byOffer rfl rfl rfl (by decide +kernel) ⟨Nat.le_of_ble_eq_true rfl, Nat.le_of_ble_eq_true rfl⟩) (he_preV (wc := ([(oX11 m0 0 ta sz_ pl at_ fa fw cs fd rfm rt_ to_ rw_ wa ct rk rb cn br sm as_ go sh_ ir oa ob th ig sp_ ki tg of_ kp sf rs), (aI g to_ 25 tl), (aI g sm 25 F), (aM g wa 6 (he_ro 6 r2)), (aM g sh_ 120 (he_ro 120 r6)), (aM g cn 7 (he_ro 7 r3)), (aM g br 7 (he_ro 7 r4)), (aI g as_ 25 Gs)] ++ (he_pl g L ln (va_up (va_up (va_up (va_up (va_up (va_up Mj (r3 6) (upd (Mj (r3 6)) 0 (mwF tl (nI r) (nI c9)))) (r3 6) (upd ((va_up Mj (r3 6) (upd (Mj (r3 6)) 0 (mwF tl (nI r) (nI c9)))) (r3 6)) 1 (mwF tl (nI r) (nI c9)))) (r3 6) (upd ((va_up (va_up Mj (r3 6) (upd (Mj (r3 6)) 0 (mwF tl (nI r) (nI c9)))) (r3 6) (upd ((va_up Mj (r3 6) (upd (Mj (r3 6)) 0 (mwF tl (nI r) (nI c9)))) (r3 6)) 1 (mwF tl (nI r) (nI c9)))) (r3 6)) 2 (nI r))) (r3 6) (upd ((va_up (va_up (va_up Mj (r3 6) (upd (Mj (r3 6)) 0 (mwF tl (nI r) (nI c9)))) (r3 6) (upd ((va_up Mj (r3 6) (upd (Mj (r3 6)) 0 (mwF tl (nI r) (nI c9)))) (r3 6)) 1 (mwF tl (nI r) (nI c9)))) (r3 6) (upd ((va_up (va_up Mj (r3 6) (upd (Mj (r3 6)) 0 (mwF tl (nI r) (nI c9)))) (r3 6) (upd ((va_up Mj (r3 6) (upd (Mj (r3 6)) 0 (mwF tl (nI r) (nI c9)))) (r3 6)) 1 (mwF tl (nI r) (nI c9)))) (r3 6)) 2 (nI r))) (r3 6)) 3 (nI c9))) (r3 6) (upd ((va_up (va_up (va_up (va_up Mj (r3 6) (upd (Mj (r3 6)) 0 (mwF tl (nI r) (nI c9)))) (r3 6) (upd ((va_up Mj (r3 6) (upd (Mj (r3 6)) 0 (mwF tl (nI r) (nI c9)))) (r3 6)) 1 (mwF tl (nI r) (nI c9)))) (r3 6) (upd ((va_up (va_up Mj (r3 6) (upd (Mj (r3 6)) 0 (mwF tl (nI r) (nI c9)))) (r3 6) (upd ((va_up Mj (r3 6) (upd (Mj (r3 6)) 0 (mwF tl (nI r) (nI c9)))) (r3 6)) 1 (mwF tl (nI r) (nI c9)))) (r3 6)) 2 (nI r))) (r3 6) (upd ((va_up (va_up (va_up Mj (r3 6) (upd (Mj (r3 6)) 0 (mwF tl (nI r) (nI c9)))) (r3 6) (upd ((va_up Mj (r3 6) (upd (Mj (r3 6)) 0 (mwF tl (nI r) (nI c9)))) (r3 6)) 1 (mwF tl (nI r) (nI c9)))) (r3 6) (upd ((va_up (va_up Mj (r3 6) (upd (Mj (r3 6)) 0 (mwF tl (nI r) (nI c9)))) (r3 6) (upd ((va_up Mj (r3 6) (upd (Mj (r3 6)) 0 (mwF tl (nI r) (nI c9)))) (r3 6)) 1 (mwF tl (nI r) (nI c9)))) (r3 6)) 2 (nI r))) (r3 6)) 3 (nI c9))) (r3 6)) 4 0)) (r3 6) (upd ((va_up (va_up (va_up (va_up (va_up Mj (r3 6) (upd (Mj (r3 6)) 0 (mwF tl (nI r) (nI c9)))) (r3 6) (upd ((va_up Mj (r3 6) (upd (Mj (r3 6)) 0 (mwF tl (nI r) (nI c9)))) (r3 6)) 1 (mwF tl (nI r) (nI c9)))) (r3 6) (upd ((va_up (va_up Mj (r3 6) (upd (Mj (r3 6)) 0 (mwF tl (nI r) (nI c9)))) (r3 6) (upd ((va_up Mj (r3 6) (upd (Mj (r3 6)) 0 (mwF tl (nI r) (nI c9)))) (r3 6)) 1 (mwF tl (nI r) (nI c9)))) (r3 6)) 2 (nI r))) (r3 6) (upd ((va_up (va_up (va_up Mj (r3 6) (upd (Mj (r3 6)) 0 (mwF tl (nI r) (nI c9)))) (r3 6) (upd ((va_up Mj (r3 6) (upd (Mj (r3 6)) 0 (mwF tl (nI r) (nI c9)))) (r3 6)) 1 (mwF tl (nI r) (nI c9)))) (r3 6) (upd ((va_up (va_up Mj (r3 6) (upd (Mj (r3 6)) 0 (mwF tl (nI r) (nI c9)))) (r3 6) (upd ((va_up Mj (r3 6) (upd (Mj (r3 6)) 0 (mwF tl (nI r) (nI c9)))) (r3 6)) 1 (mwF tl (nI r) (nI c9)))) (r3 6)) 2 (nI r))) (r3 6)) 3 (nI c9))) (r3 6) (upd ((va_up (va_up (va_up (va_up Mj (r3 6) (upd (Mj (r3 6)) 0 (mwF tl (nI r) (nI c9)))) (r3 6) (upd ((va_up Mj (r3 6) (upd (Mj (r3 6)) 0 (mwF tl (nI r) (nI c9)))) (r3 6)) 1 (mwF tl (nI r) (nI c9)))) (r3 6) (upd ((va_up (va_up Mj (r3 6) (upd (Mj (r3 6)) 0 (mwF tl (nI r) (nI c9)))) (r3 6) (upd ((va_up Mj (r3 6) (upd (Mj (r3 6)) 0 (mwF tl (nI r) (nI c9)))) (r3 6)) 1 (mwF tl (nI r) (nI c9)))) (r3 6)) 2 (nI r))) (r3 6) (upd ((va_up (va_up (va_up Mj (r3 6) (upd (Mj (r3 6)) 0 (mwF tl (nI r) (nI c9)))) (r3 6) (upd ((va_up Mj (r3 6) (upd (Mj (r3 6)) 0 (mwF tl (nI r) (nI c9)))) (r3 6)) 1 (mwF tl (nI r) (nI c9)))) (r3 6) (upd ((va_up (va_up Mj (r3 6) (upd (Mj (r3 6)) 0 (mwF tl (nI r) (nI c9)))) (r3 6) (upd ((va_up Mj (r3 6) (upd (Mj (r3 6)) 0 (mwF tl (nI r) (nI c9)))) (r3 6)) 1 (mwF tl (nI r) (nI c9)))) (r3 6)) 2 (nI r))) (r3 6)) 3 (nI c9))) (r3 6)) 4 0)) (r3 6)) 5 1000))))) hK hP hD hS hA hE (he_is [6, 7, 0, 1, 2, 3, 4, 5] [(aI g sm 25 F), (aM g wa 6 (he_ro 6 r2)), (aM g sh_ 120 (he_ro 120 r6)), (aM g cn 7 (he_ro 7 r3)), (aM g br 7 (he_ro 7 r4)), (aI g as_ 25 Gs), (oX11 m0 0 ta sz_ pl at_ fa fw cs fd rfm rt_ to_ rw_ wa ct rk rb cn br sm as_ go sh_ ir oa ob th ig sp_ ki tg of_ kp sf rs), (aI g to_ 25 tl)] (he_pl g L ln (va_up (va_up (va_up (va_up (va_up (va_up Mj (r3 6) (upd (Mj (r3 6)) 0 (mwF tl (nI r) (nI c9)))) (r3 6) (upd ((va_up Mj (r3 6) (upd (Mj (r3 6)) 0 (mwF tl (nI r) (nI c9)))) (r3 6)) 1 (mwF tl (nI r) (nI c9)))) (r3 6) (upd ((va_up (va_up Mj (r3 6) (upd (Mj (r3 6)) 0 (mwF tl (nI r) (nI c9)))) (r3 6) (upd ((va_up Mj (r3 6) (upd (Mj (r3 6)) 0 (mwF tl (nI r) (nI c9)))) (r3 6)) 1 (mwF tl (nI r) (nI c9)))) (r3 6)) 2 (nI r))) (r3 6) (upd ((va_up (va_up (va_up Mj (r3 6) (upd (Mj (r3 6)) 0 (mwF tl (nI r) (nI c9)))) (r3 6) (upd ((va_up Mj (r3 6) (upd (Mj (r3 6)) 0 (mwF tl (nI r) (nI c9)))) (r3 6)) 1 (mwF tl (nI r) (nI c9)))) (r3 6) (upd ((va_up (va_up Mj (r3 6) (upd (Mj (r3 6)) 0 (mwF tl (nI r) (nI c9)))) (r3 6) (upd ((va_up Mj (r3 6) (upd (Mj (r3 6)) 0 (mwF tl (nI r) (nI c9)))) (r3 6)) 1 (mwF tl (nI r) (nI c9)))) (r3 6)) 2 (nI r))) (r3 6)) 3 (nI c9))) (r3 6) (upd ((va_up (va_up (va_up (va_up Mj (r3 6) (upd (Mj (r3 6)) 0 (mwF tl (nI r) (nI c9)))) (r3 6) (upd ((va_up Mj (r3 6) (upd (Mj (r3 6)) 0 (mwF tl (nI r) (nI c9)))) (r3 6)) 1 (mwF tl (nI r) (nI c9)))) (r3 6) (upd ((va_up (va_up Mj (r3 6) (upd (Mj (r3 6)) 0 (mwF tl (nI r) (nI c9)))) (r3 6) (upd ((va_up Mj (r3 6) (upd (Mj (r3 6)) 0 (mwF tl (nI r) (nI c9)))) (r3 6)) 1 (mwF tl (nI r) (nI c9)))) (r3 6)) 2 (nI r))) (r3 6) (upd ((va_up (va_up (va_up Mj (r3 6) (upd (Mj (r3 6)) 0 (mwF tl (nI r) (nI c9)))) (r3 6) (upd ((va_up Mj (r3 6) (upd (Mj (r3 6)) 0 (mwF tl (nI r) (nI c9)))) (r3 6)) 1 (mwF tl (nI r) (nI c9)))) (r3 6) (upd ((va_up (va_up Mj (r3 6) (upd (Mj (r3 6)) 0 (mwF tl (nI r) (nI c9)))) (r3 6) (upd ((va_up Mj (r3 6) (upd (Mj (r3 6)) 0 (mwF tl (nI r) (nI c9)))) (r3 6)) 1 (mwF tl (nI r) (nI c9)))) (r3 6)) 2 (nI r))) (r3 6)) 3 (nI c9))) (r3 6)) 4 0)) (r3 6) (upd ((va_up (va_up (va_up (va_up (va_up Mj (r3 6) (upd (Mj (r3 6)) 0 (mwF tl (nI r) (nI c9)))) (r3 6) (upd ((va_up Mj (r3 6) (upd (Mj (r3 6)) 0 (mwF tl (nI r) (nI c9)))) (r3 6)) 1 (mwF tl (nI r) (nI c9)))) (r3 6) (upd ((va_up (va_up Mj (r3 6) (upd (Mj (r3 6)) 0 (mwF tl (nI r) (nI c9)))) (r3 6) (upd ((va_up Mj (r3 6) (upd (Mj (r3 6)) 0 (mwF tl (nI r) (nI c9)))) (r3 6)) 1 (mwF tl (nI r) (nI c9)))) (r3 6)) 2 (nI r))) (r3 6) (upd ((va_up (va_up (va_up Mj (r3 6) (upd (Mj (r3 6)) 0 (mwF tl (nI r) (nI c9)))) (r3 6) (upd ((va_up Mj (r3 6) (upd (Mj (r3 6)) 0 (mwF tl (nI r) (nI c9)))) (r3 6)) 1 (mwF tl (nI r) (nI c9)))) (r3 6) (upd ((va_up (va_up Mj (r3 6) (upd (Mj (r3 6)) 0 (mwF tl (nI r) (nI c9)))) (r3 6) (upd ((va_up Mj (r3 6) (upd (Mj (r3 6)) 0 (mwF tl (nI r) (nI c9)))) (r3 6)) 1 (mwF tl (nI r) (nI c9)))) (r3 6)) 2 (nI r))) (r3 6)) 3 (nI c9))) (r3 6) (upd ((va_up (va_up (va_up (va_up Mj (r3 6) (upd (Mj (r3 6)) 0 (mwF tl (nI r) (nI c9)))) (r3 6) (upd ((va_up Mj (r3 6) (upd (Mj (r3 6)) 0 (mwF tl (nI r) (nI c9)))) (r3 6)) 1 (mwF tl (nI r) (nI c9)))) (r3 6) (upd ((va_up (va_up Mj (r3 6) (upd (Mj (r3 6)) 0 (mwF tl (nI r) (nI c9)))) (r3 6) (upd ((va_up Mj (r3 6) (upd (Mj (r3 6)) 0 (mwF tl (nI r) (nI c9)))) (r3 6)) 1 (mwF tl (nI r) (nI c9)))) (r3 6)) 2 (nI r))) (r3 6) (upd ((va_up (va_up (va_up Mj (r3 6) (upd (Mj (r3 6)) 0 (mwF tl (nI r) (nI c9)))) (r3 6) (upd ((va_up Mj (r3 6) (upd (Mj (r3 6)) 0 (mwF tl (nI r) (nI c9)))) (r3 6)) 1 (mwF tl (nI r) (nI c9)))) (r3 6) (upd ((va_up (va_up Mj (r3 6) (upd (Mj (r3 6)) 0 (mwF tl (nI r) (nI c9)))) (r3 6) (upd ((va_up Mj (r3 6) (upd (Mj (r3 6)) 0 (mwF tl (nI r) (nI c9)))) (r3 6)) 1 (mwF tl (nI r) (nI c9)))) (r3 6)) 2 (nI r))) (r3 6)) 3 (nI c9))) (r3 6)) 4 0)) (r3 6)) 5 1000)))) (he_ixP rfl) (he_ndP rfl rfl) 6 rfl rfl) rfl rfl hl.1 rfl (lv_room (Nat.le_of_ble_eq_true rfl)) dX11_offer_147 ⟨(Nat.le_of_ble_eq_true rfl), (Nat.le_of_ble_eq_true rfl)⟩) hP hD hS hA (he_is [6, 7, 0, 1, 2, 3, 4, 5] [(aI g sm 25 F), (aM g wa 6 (he_ro 6 r2)), (aM g sh_ 120 (he_ro 120 r6)), (aM g cn 7 (he_ro 7 r3)), (aM g br 7 (he_ro 7 r4)), (aI g as_ 25 Gs), (oX11 m0 0 ta sz_ pl at_ fa fw cs fd rfm rt_ to_ rw_ wa ct rk rb cn br sm as_ go sh_ ir oa ob th ig sp_ ki tg of_ kp sf rs), (aI g to_ 25 tl)] (he_pl g L ln (va_up (va_up (va_up (va_up (va_up (va_up Mj (r3 6) (upd (Mj (r3 6)) 0 (mwF tl (nI r) (nI c9)))) (r3 6) (upd ((va_up Mj (r3 6) (upd (Mj (r3 6)) 0 (mwF tl (nI r) (nI c9)))) (r3 6)) 1 (mwF tl (nI r) (nI c9)))) (r3 6) (upd ((va_up (va_up Mj (r3 6) (upd (Mj (r3 6)) 0 (mwF tl (nI r) (nI c9)))) (r3 6) (upd ((va_up Mj (r3 6) (upd (Mj (r3 6)) 0 (mwF tl (nI r) (nI c9)))) (r3 6)) 1 (mwF tl (nI r) (nI c9)))) (r3 6)) 2 (nI r))) (r3 6) (upd ((va_up (va_up (va_up Mj (r3 6) (upd (Mj (r3 6)) 0 (mwF tl (nI r) (nI c9)))) (r3 6) (upd ((va_up Mj (r3 6) (upd (Mj (r3 6)) 0 (mwF tl (nI r) (nI c9)))) (r3 6)) 1 (mwF tl (nI r) (nI c9)))) (r3 6) (upd ((va_up (va_up Mj (r3 6) (upd (Mj (r3 6)) 0 (mwF tl (nI r) (nI c9)))) (r3 6) (upd ((va_up Mj (r3 6) (upd (Mj (r3 6)) 0 (mwF tl (nI r) (nI c9)))) (r3 6)) 1 (mwF tl (nI r) (nI c9)))) (r3 6)) 2 (nI r))) (r3 6)) 3 (nI c9))) (r3 6) (upd ((va_up (va_up (va_up (va_up Mj (r3 6) (upd (Mj (r3 6)) 0 (mwF tl (nI r) (nI c9)))) (r3 6) (upd ((va_up Mj (r3 6) (upd (Mj (r3 6)) 0 (mwF tl (nI r) (nI c9)))) (r3 6)) 1 (mwF tl (nI r) (nI c9)))) (r3 6) (upd ((va_up (va_up Mj (r3 6) (upd (Mj (r3 6)) 0 (mwF tl (nI r) (nI c9)))) (r3 6) (upd ((va_up Mj (r3 6) (upd (Mj (r3 6)) 0 (mwF tl (nI r) (nI c9)))) (r3 6)) 1 (mwF tl (nI r) (nI c9)))) (r3 6)) 2 (nI r))) (r3 6) (upd ((va_up (va_up (va_up Mj (r3 6) (upd (Mj (r3 6)) 0 (mwF tl (nI r) (nI c9)))) (r3 6) (upd ((va_up Mj (r3 6) (upd (Mj (r3 6)) 0 (mwF tl (nI r) (nI c9)))) (r3 6)) 1 (mwF tl (nI r) (nI c9)))) (r3 6) (upd ((va_up (va_up Mj (r3 6) (upd (Mj (r3 6)) 0 (mwF tl (nI r) (nI c9)))) (r3 6) (upd ((va_up Mj (r3 6) (upd (Mj (r3 6)) 0 (mwF tl (nI r) (nI c9)))) (r3 6)) 1 (mwF tl (nI r) (nI c9)))) (r3 6)) 2 (nI r))) (r3 6)) 3 (nI c9))) (r3 6)) 4 0)) (r3 6) (upd ((va_up (va_up (va_up (va_up (va_up Mj (r3 6) (upd (Mj (r3 6)) 0 (mwF tl (nI r) (nI c9)))) (r3 6) (upd ((va_up Mj (r3 6) (upd (Mj (r3 6)) 0 (mwF tl (nI r) (nI c9)))) (r3 6)) 1 (mwF tl (nI r) (nI c9)))) (r3 6) (upd ((va_up (va_up Mj (r3 6) (upd (Mj (r3 6)) 0 (mwF tl (nI r) (nI c9)))) (r3 6) (upd ((va_up Mj (r3 6) (upd (Mj (r3 6)) 0 (mwF tl (nI r) (nI c9)))) (r3 6)) 1 (mwF tl (nI r) (nI c9)))) (r3 6)) 2 (nI r))) (r3 6) (upd ((va_up (va_up (va_up Mj (r3 6) (upd (Mj (r3 6)) 0 (mwF tl (nI r) (nI c9)))) (r3 6) (upd ((va_up Mj (r3 6) (upd (Mj (r3 6)) 0 (mwF tl (nI r) (nI c9)))) (r3 6)) 1 (mwF tl (nI r) (nI c9)))) (r3 6) (upd ((va_up (va_up Mj (r3 6) (upd (Mj (r3 6)) 0 (mwF tl (nI r) (nI c9)))) (r3 6) (upd ((va_up Mj (r3 6) (upd (Mj (r3 6)) 0 (mwF tl (nI r) (nI c9)))) (r3 6)) 1 (mwF tl (nI r) (nI c9)))) (r3 6)) 2 (nI r))) (r3 6)) 3 (nI c9))) (r3 6) (upd ((va_up (va_up (va_up (va_up Mj (r3 6) (upd (Mj (r3 6)) 0 (mwF tl (nI r) (nI c9)))) (r3 6) (upd ((va_up Mj (r3 6) (upd (Mj (r3 6)) 0 (mwF tl (nI r) (nI c9)))) (r3 6)) 1 (mwF tl (nI r) (nI c9)))) (r3 6) (upd ((va_up (va_up Mj (r3 6) (upd (Mj (r3 6)) 0 (mwF tl (nI r) (nI c9)))) (r3 6) (upd ((va_up Mj (r3 6) (upd (Mj (r3 6)) 0 (mwF tl (nI r) (nI c9)))) (r3 6)) 1 (mwF tl (nI r) (nI c9)))) (r3 6)) 2 (nI r))) (r3 6) (upd ((va_up (va_up (va_up Mj (r3 6) (upd (Mj (r3 6)) 0 (mwF tl (nI r) (nI c9)))) (r3 6) (upd ((va_up Mj (r3 6) (upd (Mj (r3 6)) 0 (mwF tl (nI r) (nI c9)))) (r3 6)) 1 (mwF tl (nI r) (nI c9)))) (r3 6) (upd ((va_up (va_up Mj (r3 6) (upd (Mj (r3 6)) 0 (mwF tl (nI r) (nI c9)))) (r3 6) (upd ((va_up Mj (r3 6) (upd (Mj (r3 6)) 0 (mwF tl (nI r) (nI c9)))) (r3 6)) 1 (mwF tl (nI r) (nI c9)))) (r3 6)) 2 (nI r))) (r3 6)) 3 (nI c9))) (r3 6)) 4 0)) (r3 6)) 5 1000)))) [] (he_ixP rfl) rfl rfl (he_disP (by decide) rfl) (fun r_30 u_31 H locs h_32 hP hD hS => ?_)
                          obtain ⟨uf_33, ug_34, Mu_35⟩ := u_31
                          try dsimp only at h_32
                          obtain ⟨hf_36, hf_37, hf_38⟩ := h_32
                          have hP : va_P g.1 vwCl ([(oX11 m0 0 ta sz_ pl at_ fa fw cs fd rfm rt_ to_ rw_ wa ct rk rb cn br sm as_ go sh_ ir oa ob th ig sp_ ki tg of_ kp sf rs), (aI g to_ 25 tl), (aI g sm 25 uf_33), (aM g wa 6 (he_ro 6 r2)), (aM g sh_ 120 (he_ro 120 r6)), (aM g cn 7 (he_ro 7 r3)), (aM g br 7 (he_ro 7 r4)), (aI g as_ 25 ug_34)] ++ he_pl g L ln Mu_35) H := hP
                          have hD : va_D A ([(oX11 m0 0 ta sz_ pl at_ fa fw cs fd rfm rt_ to_ rw_ wa ct rk rb cn br sm as_ go sh_ ir oa ob th ig sp_ ki tg of_ kp sf rs), (aI g to_ 25 tl), (aI g sm 25 uf_33), (aM g wa 6 (he_ro 6 r2)), (aM g sh_ 120 (he_ro 120 r6)), (aM g cn 7 (he_ro 7 r3)), (aM g br 7 (he_ro 7 r4)), (aI g as_ 25 ug_34)] ++ he_pl g L ln Mu_35) := hD
                          refine lv_istore (lv' := [(9, .int r_30), (0, .ref m0), (1, .int (nI n)), (2, .int wh), (3, .int bn), (4, .int bc), (5, .int bm), (6, .ref (r3 6)), (7, .int (nI r)), (8, .int (nI c9))]) hx hb dX11_offer_150 hl (by decide) rfl (fun ls hl => ?_)
                          refine lv_iload hx hb dX11_offer_152 (lv_at hl 0 rfl) ?_
                          refine lv_iload hx hb dX11_offer_154 (lv_at hl 6 rfl) ?_
                          refine lv_icmp_gt (tgt := 162) hx hb dX11_offer_156 (by decide) (fun c_39 => ?_) (fun c_39 => ?_)
                          · refine lv_iload hx hb dX11_offer_162 (lv_at hl 8 rfl) ?_
                            refine lv_istore_n (lv' := [(3, .int (nI r)), (9, .int r_30), (0, .ref m0), (1, .int (nI n)), (2, .int wh), (4, .int bc), (5, .int bm), (6, .ref (r3 6)), (7, .int (nI r)), (8, .int (nI c9))]) hx hb dX11_offer_164 rfl hl (by decide) rfl (fun ls hl => ?_)
                            refine lv_iload hx hb dX11_offer_165 (lv_at hl 9 rfl) ?_
                            refine lv_istore (lv' := [(4, .int (nI c9)), (3, .int (nI r)), (9, .int r_30), (0, .ref m0), (1, .int (nI n)), (2, .int wh), (5, .int bm), (6, .ref (r3 6)), (7, .int (nI r)), (8, .int (nI c9))]) hx hb dX11_offer_167 hl (by decide) rfl (fun ls hl => ?_)
                            refine lv_iload hx hb dX11_offer_169 (lv_at hl 2 rfl) ?_
                            refine lv_istore (lv' := [(5, .int r_30), (4, .int (nI c9)), (3, .int (nI r)), (9, .int r_30), (0, .ref m0), (1, .int (nI n)), (2, .int wh), (6, .ref (r3 6)), (7, .int (nI r)), (8, .int (nI c9))]) hx hb dX11_offer_171 hl (by decide) rfl (fun ls hl => ?_)
                            refine lv_iinc (v := nI (c9 + 1)) (lv' := [(8, .int (nI (c9 + 1))), (5, .int r_30), (4, .int (nI c9)), (3, .int (nI r)), (9, .int r_30), (0, .ref m0), (1, .int (nI n)), (2, .int wh), (6, .ref (r3 6)), (7, .int (nI r))]) hx hb dX11_offer_173 hl (k := 9) rfl (nI_1 c9) (by decide) rfl (fun ls hl => ?_)
                            refine lv_goto (tgt := 94) hx hb dX11_offer_176 (by decide) ?_
                            exact ih94 (c9 + 1) (nI r) (nI c9) r_30 uf_33 ug_34 Mu_35 (by omega) (by omega) (a25_t hF hf_36) (bN_6 (fun j hj => D_r4_r6 6 j (by decide) hj) hf_37 (bN_3 (D_r3_r4 6 6 (by decide) (by decide)) (bN_3 (D_r3_r4 6 6 (by decide) (by decide)) (bN_3 (D_r3_r4 6 6 (by decide) (by decide)) (bN_3 (D_r3_r4 6 6 (by decide) (by decide)) (bN_3 (D_r3_r4 6 6 (by decide) (by decide)) (bN_3 (D_r3_r4 6 6 (by decide) (by decide)) hbn _) _) _) _) _) _)) (mO_6 (mO_3 (mO_3 (mO_3 (mO_3 (mO_3 (mO_3 hmo _) _) _) _) _) _) hf_38) _ _ _ hP hD hS (lv_sub hl [5, 6, 7, 3, 2, 1, 8, 9, 0] rfl)
                          · refine lv_goto (tgt := 173) hx hb dX11_offer_159 (by decide) ?_
                            refine lv_iinc (v := nI (c9 + 1)) (lv' := [(8, .int (nI (c9 + 1))), (9, .int r_30), (0, .ref m0), (1, .int (nI n)), (2, .int wh), (3, .int bn), (4, .int bc), (5, .int bm), (6, .ref (r3 6)), (7, .int (nI r))]) hx hb dX11_offer_173 hl (k := 9) rfl (nI_1 c9) (by decide) rfl (fun ls hl => ?_)
                            refine lv_goto (tgt := 94) hx hb dX11_offer_176 (by decide) ?_
                            exact ih94 (c9 + 1) bn bc bm uf_33 ug_34 Mu_35 (by omega) (by omega) (a25_t hF hf_36) (bN_6 (fun j hj => D_r4_r6 6 j (by decide) hj) hf_37 (bN_3 (D_r3_r4 6 6 (by decide) (by decide)) (bN_3 (D_r3_r4 6 6 (by decide) (by decide)) (bN_3 (D_r3_r4 6 6 (by decide) (by decide)) (bN_3 (D_r3_r4 6 6 (by decide) (by decide)) (bN_3 (D_r3_r4 6 6 (by decide) (by decide)) (bN_3 (D_r3_r4 6 6 (by decide) (by decide)) hbn _) _) _) _) _) _)) (mO_6 (mO_3 (mO_3 (mO_3 (mO_3 (mO_3 (mO_3 hmo _) _) _) _) _) _) hf_38) _ _ _ hP hD hS (lv_sub hl [2, 3, 4, 5, 6, 7, 8, 9, 0] rfl)
                    exact loop94 ((21 - 0) + 1) 0 bn bc bm F Gs Mj (Nat.lt_succ_self _) (Nat.zero_le _) hF hbn hmo _ _ _ hP hD hS (lv_sub hl [1, 2, 3, 4, 5, 6, 7, 8, 0] rfl)
              exact loop84 ((10 - 0) + 1) 0 0 0 (-1) f g0 Mj (Nat.lt_succ_self _) (Nat.zero_le _) (fun _ _ => rfl) hbn hmo _ _ _ hP hD hS (lv_sub hl [1, 2, 3, 4, 5, 6, 7, 0] rfl)
            · have k_40 : ¬ (36 ≤ i1) := fun h9 => c_13 ((he_cle (a := 36) (b := i1) (by decide) rfl (by omega) (by omega)).mpr h9)
              refine lv_aload_n hx hb dX11_offer_64 rfl (lv_at hl 0 rfl) ?_
              refine va_get (v := .ref br) (T := TX11) (N := 35) hx hb hts inX11 hown hK hP 0 rfl rfl 18 (by decide) f43 (fun _ h9 => h9) rfl dX11_offer_65 ?_
              refine lv_bipush (v := 6) hx hb dX11_offer_68 (by decide) ?_
              refine he_aldm hx hb hK hP 6 rfl (6) (by decide) (by decide) (by decide) dX11_offer_70 ?_
              refine lv_iload hx hb dX11_offer_71 (lv_at hl 7 rfl) ?_
              refine lv_iconst (v := (-1)) hx hb dX11_offer_73 (by decide) ?_
              refine he_past hx hb hK hP hD hS (F_r4 6 (by decide)).1 (i1) rfl (by rw [(F_r4 6 (by decide)).2.1]; exact (by first | assumption | decide | omega)) (by rw [(F_r4 6 (by decide)).2.1]; decide) dX11_offer_74 (fun H locs hP hD hS => ?_)
              have hP : va_P g.1 vwCl ([(oX11 m0 0 ta sz_ pl at_ fa fw cs fd rfm rt_ to_ rw_ wa ct rk rb cn br sm as_ go sh_ ir oa ob th ig sp_ ki tg of_ kp sf rs), (aI g to_ 25 tl), (aI g sm 25 f), (aM g wa 6 (he_ro 6 r2)), (aM g sh_ 120 (he_ro 120 r6)), (aM g cn 7 (he_ro 7 r3)), (aM g br 7 (he_ro 7 r4)), (aI g as_ 25 g0)] ++ he_pl g L ln (va_up Mj (r4 6) (upd (Mj (r4 6)) i1 (-1)))) H := hP
              have hD : va_D A ([(oX11 m0 0 ta sz_ pl at_ fa fw cs fd rfm rt_ to_ rw_ wa ct rk rb cn br sm as_ go sh_ ir oa ob th ig sp_ ki tg of_ kp sf rs), (aI g to_ 25 tl), (aI g sm 25 f), (aM g wa 6 (he_ro 6 r2)), (aM g sh_ 120 (he_ro 120 r6)), (aM g cn 7 (he_ro 7 r3)), (aM g br 7 (he_ro 7 r4)), (aI g as_ 25 g0)] ++ he_pl g L ln (va_up Mj (r4 6) (upd (Mj (r4 6)) i1 (-1)))) := hD
              refine lv_iinc (v := nI (i1 + 1)) (lv' := [(7, .int (nI (i1 + 1))), (0, .ref m0), (1, .int (nI n)), (2, .int wh), (3, .int 0), (4, .int 0), (5, .int (-1)), (6, .ref (r3 6))]) hx hb dX11_offer_75 hl (k := 7) rfl (nI_1 i1) (by decide) rfl (fun ls hl => ?_)
              refine lv_goto (tgt := 57) hx hb dX11_offer_78 (by decide) ?_
              exact ih57 (i1 + 1) (va_up Mj (r4 6) (upd (Mj (r4 6)) i1 (-1))) (by omega) (by omega) (bN_s hbn) (mO_4 hmo _) _ _ _ hP hD hS (lv_sub hl [1, 2, 3, 4, 5, 6, 7, 0] rfl)
        have hP := he_Psub (X := [(aI g to_ 25 tl), (aI g sm 25 f), (aM g wa 6 (he_ro 6 r2)), (aM g sh_ 120 (he_ro 120 r6)), (aM g cn 7 (he_ro 7 r3)), (aM g br 7 (he_ro 7 r4)), (aI g as_ 25 g0), (oX11 m0 0 ta sz_ pl at_ fa fw cs fd rfm rt_ to_ rw_ wa ct rk rb cn br sm as_ go sh_ ir oa ob th ig sp_ ki tg of_ kp sf rs)]) (X2 := [(oX11 m0 0 ta sz_ pl at_ fa fw cs fd rfm rt_ to_ rw_ wa ct rk rb cn br sm as_ go sh_ ir oa ob th ig sp_ ki tg of_ kp sf rs), (aI g to_ 25 tl), (aI g sm 25 f), (aM g wa 6 (he_ro 6 r2)), (aM g sh_ 120 (he_ro 120 r6)), (aM g cn 7 (he_ro 7 r3)), (aM g br 7 (he_ro 7 r4)), (aI g as_ 25 g0)]) (P := (he_pl g L ln M)) hP [7, 0, 1, 2, 3, 4, 5, 6] rfl
        have hD := he_Dsub (X := [(aI g to_ 25 tl), (aI g sm 25 f), (aM g wa 6 (he_ro 6 r2)), (aM g sh_ 120 (he_ro 120 r6)), (aM g cn 7 (he_ro 7 r3)), (aM g br 7 (he_ro 7 r4)), (aI g as_ 25 g0), (oX11 m0 0 ta sz_ pl at_ fa fw cs fd rfm rt_ to_ rw_ wa ct rk rb cn br sm as_ go sh_ ir oa ob th ig sp_ ki tg of_ kp sf rs)]) (X2 := [(oX11 m0 0 ta sz_ pl at_ fa fw cs fd rfm rt_ to_ rw_ wa ct rk rb cn br sm as_ go sh_ ir oa ob th ig sp_ ki tg of_ kp sf rs), (aI g to_ 25 tl), (aI g sm 25 f), (aM g wa 6 (he_ro 6 r2)), (aM g sh_ 120 (he_ro 120 r6)), (aM g cn 7 (he_ro 7 r3)), (aM g br 7 (he_ro 7 r4)), (aI g as_ 25 g0)]) (P := (he_pl g L ln M)) hD [7, 0, 1, 2, 3, 4, 5, 6] rfl rfl rfl
        exact loop57 ((36 - 0) + 1) 0 M (Nat.lt_succ_self _) (Nat.zero_le _) (fun b hb => absurd hb (Nat.not_lt_zero b)) (mO_r _ _ _ _) _ _ _ hP hD hS (lv_sub hl [5, 6, 7, 4, 3, 2, 1, 0] rfl)
      · exact absurd (by decide) c_12
    · exact absurd c_8 (by decide)
end
section
/-- a count as a long -/
def jL (a : Nat) : Int64 := Int64.ofNat a
theorem jL_int {a : Nat} (h : a < 2 ^ 63) : (jL a).toInt = (a : Int) := Int64.toInt_ofNat_of_lt h
theorem jL_i {a : Nat} (h : a < 2147483648) : Int32.toInt64 (nI a) = jL a := by
  apply Int64.toInt_inj.mp
  rw [Int32.toInt_toInt64, jL_int (by omega)]
  exact Int32.toInt_ofNat_of_lt h
theorem jL_z {a : Nat} (h : a < 2 ^ 63) (e : jL a = 0) : a = 0 := by
  have h1 := jL_int h
  rw [e] at h1
  have h2 : (0 : Int64).toInt = 0 := by decide
  omega
theorem jL_c {a : Nat} (h : a < 2 ^ 63) (e : lg_cmp (jL a) 0 = 0) : a = 0 := by
  apply jL_z h
  unfold lg_cmp at e
  split at e
  · exact absurd e (by decide)
  · split at e
    · assumption
    · exact absurd e (by decide)
theorem jL_mul (a b : Nat) : jL a * jL b = jL (a * b) := (Int64.ofNat_mul a b).symm
theorem jL_rem {a b : Nat} (ha : a < 2 ^ 63) (hb : b < 2 ^ 63) : jL a - jL a / jL b * jL b = jL (a % b) := by
  unfold jL
  rw [← Int64.ofNat_div ha hb, ← Int64.ofNat_mul, ← Int64.ofNat_sub _ _ (Nat.div_mul_le_self a b)]
  congr 1
  have := Nat.div_add_mod a b
  rw [Nat.mul_comm] at this
  omega
theorem bl_s {A a k : Nat} (h : A ≤ 99 * 16 ^ k) (ha : a ≤ 16) : A * a ≤ 99 * 16 ^ (k + 1) := by
  rw [Nat.pow_succ, ← Nat.mul_assoc]
  exact Nat.mul_le_mul h ha
theorem bl_lt {A k : Nat} (h : A ≤ 99 * 16 ^ k) (hk : k ≤ 12) : A < 2 ^ 63 := by
  have h1 : 16 ^ k ≤ 16 ^ 12 := Nat.pow_le_pow_right (by decide) hk
  have h2 : 99 * 16 ^ k ≤ 99 * 16 ^ 12 := Nat.mul_le_mul_left 99 h1
  have h3 : 99 * 16 ^ 12 < 2 ^ 63 := by decide
  omega
set_option maxHeartbeats 4000000 in
set_option maxRecDepth 100000 in
theorem h_X11_believed0 (l : Launch) (g : he_G) (m0 : Nat) (fd : Nat) (rfm : Nat) (rt_ : Nat) (to_ : Nat) (rw_ : Nat) (wa : Nat) (rk : Nat) (rb : Nat) (cn : Nat) (br : Nat) (sm : Nat) (as_ : Nat) (go : Nat) (sh_ : Nat) (ki : Nat) (tg : Nat) (of_ : Nat) (kp : Nat) (rs : Nat) (ta : Int32) (sz_ : Int32) (pl : Int32) (at_ : Int32) (fa : Int32) (fw : Int32) (cs : Int32) (ct : Int32) (ir : Int32) (ig : Int32) (sp_ : Int32) (sf : Int32) (tw : Int32) (oa : Nat) (ob : Nat) (th : Nat) (L : List Nat) (ln : Nat → Nat) (M : Nat → Nat → Int32) (r8 : Nat → Nat) (F_r8 : ∀ i, i < 12 → r8 i ∈ L ∧ ln (r8 i) = 2 ∧ True) (hth : th ≤ 12) (htk : tOk r8 M th) (hoa1 : 1 ≤ oa) (hoa2 : oa ≤ 99) (hob1 : 1 ≤ ob) (hob2 : ob ≤ 99) : he_J l yX11_believed wsX11_believed 1 23 0 0 g [.ref m0, .int 0] ([(oX11 m0 tw ta sz_ pl at_ fa fw cs fd rfm rt_ to_ rw_ wa ct rk rb cn br sm as_ go sh_ ir (nI oa) (nI ob) (nI th) ig sp_ ki tg of_ kp sf rs), (aM g tg 12 (he_ro 12 r8))] ++ he_pl g L ln M) (fun (r : Int64) (u : Unit) => True) (fun (u : Unit) => [(oX11 m0 0 ta sz_ pl at_ fa fw cs fd rfm rt_ to_ rw_ wa ct rk rb cn br sm as_ go sh_ ir (nI oa) (nI ob) (nI th) ig sp_ ki tg of_ kp sf rs), (aM g tg 12 (he_ro 12 r8))] ++ he_pl g L ln M) := by
  refine he_begin (l := l) (g := g) (y := yX11_believed) (wl := wsX11_believed) (fr := 1) (lo := 23) (mc := 0) (ms := 0) (av := [.ref m0, .int 0]) (ws := ([(oX11 m0 tw ta sz_ pl at_ fa fw cs fd rfm rt_ to_ rw_ wa ct rk rb cn br sm as_ go sh_ ir (nI oa) (nI ob) (nI th) ig sp_ ki tg of_ kp sf rs), (aM g tg 12 (he_ro 12 r8))] ++ he_pl g L ln M)) (cc := cX11_believed) (maxL := 12) (ret := (some .long)) (fun A => va_Ql (fun (r : Int64) (u : Unit) => True) (fun u t => he_post g A ((fun (u : Unit) => [(oX11 m0 0 ta sz_ pl at_ fa fw cs fd rfm rt_ to_ rw_ wa ct rk rb cn br sm as_ go sh_ ir (nI oa) (nI ob) (nI th) ig sp_ ki tg of_ kp sf rs), (aM g tg 12 (he_ro 12 r8))] ++ he_pl g L ln M) u) t) A) (by decide) rfl (Nat.le_of_ble_eq_true rfl) ?_
  intro p e s m args below meth c A ls H locs Q hQ hB
  obtain ⟨hx, hb, hr, hml, hown, hts, hlk, hin, hP, hK, hD, hS, hA, hE, hl⟩ := hB
  have hl : lv_has ls 12 [(0, .ref m0), (1, .int 0)] := hl
  have f85 := hts (.fieldLink RX11 85 "HiredEnemyModel" "thrown" "I") (iwoX11_believed (k := 0) rfl)
  have inX11 : ∀ w ∈ wsX110, w ∈ wsX11_believed := innX11_believed_X11
  have f58 := hts (.fieldLink RX11 58 "HiredEnemyModel" "oddsA" "I") (iwoX11_believed (k := 1) rfl)
  have f61 := hts (.fieldLink RX11 61 "HiredEnemyModel" "oddsB" "I") (iwoX11_believed (k := 2) rfl)
  have f165 := hts (.fieldLink RX11 165 "HiredEnemyModel" "things" "I") (iwoX11_believed (k := 3) rfl)
  have f67 := hts (.fieldLink RX11 67 "HiredEnemyModel" "thing" "[[I") (iwoX11_believed (k := 4) rfl)
  refine lv_aload_n hx hb dX11_believed_0 rfl (lv_at hl 0 rfl) ?_
  refine lv_iconst (v := 0) hx hb dX11_believed_1 (by decide) ?_
  refine va_put (v := .int 0) (ty := .int) (T := TX11) (N := 35) hx hb hts inX11 tyX11 tyX11_ok nmX11 hown hK hP hD hS 0 rfl rfl 0 (by decide) f85 (fun _ h9 => h9) rfl (by decide +kernel) rfl rfl (Nat.le_of_ble_eq_true rfl) dX11_believed_2 (fun H locs hP hD hS => ?_)
  have hP : va_P g.1 vwCl ([(oX11 m0 0 ta sz_ pl at_ fa fw cs fd rfm rt_ to_ rw_ wa ct rk rb cn br sm as_ go sh_ ir (nI oa) (nI ob) (nI th) ig sp_ ki tg of_ kp sf rs), (aM g tg 12 (he_ro 12 r8))] ++ he_pl g L ln M) H := hP
  have hD : va_D A ([(oX11 m0 0 ta sz_ pl at_ fa fw cs fd rfm rt_ to_ rw_ wa ct rk rb cn br sm as_ go sh_ ir (nI oa) (nI ob) (nI th) ig sp_ ki tg of_ kp sf rs), (aM g tg 12 (he_ro 12 r8))] ++ he_pl g L ln M) := hD
  refine lv_aload_n hx hb dX11_believed_5 rfl (lv_at hl 0 rfl) ?_
  refine lv_iload_n hx hb dX11_believed_6 rfl (lv_at hl 1 rfl) ?_
  refine lv_iconst (v := 0) hx hb dX11_believed_7 (by decide) ?_
  refine lv_iconst (v := 1) hx hb dX11_believed_8 (by decide) ?_
  refine he_ci (wc := []) (wr := ([(oX11 m0 0 ta sz_ pl at_ fa fw cs fd rfm rt_ to_ rw_ wa ct rk rb cn br sm as_ go sh_ ir (nI oa) (nI ob) (nI th) ig sp_ ki tg of_ kp sf rs), (aM g tg 12 (he_ro 12 r8))] ++ (he_pl g L ln M))) (va_runS (As := [.int 0, .int 0, .int 1]) (rest := [.ref m0]) ⟨hx, hb, hml, hown, hts⟩ (c_X11_in l g 0 0 1 H.size) (va_cwS 3 hts gX11_believed_X11_in rfl rfl rfl (by decide +kernel) ⟨Nat.le_of_ble_eq_true rfl, Nat.le_of_ble_eq_true rfl⟩) (he_preS (wc := []) hK hP hD hS hA hE [] rfl rfl) rfl rfl hl.1 rfl (lv_room (Nat.le_of_ble_eq_true rfl)) dX11_believed_9 ⟨(Nat.le_of_ble_eq_true rfl), (Nat.le_of_ble_eq_true rfl)⟩) hP hD hS hA [] (he_is [0, 1] [(oX11 m0 0 ta sz_ pl at_ fa fw cs fd rfm rt_ to_ rw_ wa ct rk rb cn br sm as_ go sh_ ir (nI oa) (nI ob) (nI th) ig sp_ ki tg of_ kp sf rs), (aM g tg 12 (he_ro 12 r8))] (he_pl g L ln M)) rfl (he_ixP rfl) (he_ndP rfl rfl) (he_disN (by decide) rfl) (fun r_1 u_2 H locs h_3 hP hD hS => ?_)
  have hP := va_P.swap hP
  have hD := va_D.swap hD
  subst h_3
  have hP : va_P g.1 vwCl ([(oX11 m0 0 ta sz_ pl at_ fa fw cs fd rfm rt_ to_ rw_ wa ct rk rb cn br sm as_ go sh_ ir (nI oa) (nI ob) (nI th) ig sp_ ki tg of_ kp sf rs), (aM g tg 12 (he_ro 12 r8))] ++ he_pl g L ln M) H := hP
  have hD : va_D A ([(oX11 m0 0 ta sz_ pl at_ fa fw cs fd rfm rt_ to_ rw_ wa ct rk rb cn br sm as_ go sh_ ir (nI oa) (nI ob) (nI th) ig sp_ ki tg of_ kp sf rs), (aM g tg 12 (he_ro 12 r8))] ++ he_pl g L ln M) := hD
  refine he_top (1) (by decide) ?_
  refine lv_if_ne (tgt := 19) hx hb dX11_believed_12 (by decide) (fun c_4 => ?_) (fun c_4 => ?_)
  · refine lv_iconst (v := 0) hx hb dX11_believed_19 (by decide) ?_
    refine lv_iconst (v := 1) hx hb dX11_believed_20 (by decide) ?_
    refine lv_iconst (v := 2) hx hb dX11_believed_21 (by decide) ?_
    refine he_ci (wc := [(oX11 m0 0 ta sz_ pl at_ fa fw cs fd rfm rt_ to_ rw_ wa ct rk rb cn br sm as_ go sh_ ir (nI oa) (nI ob) (nI th) ig sp_ ki tg of_ kp sf rs)]) (wr := ([(aM g tg 12 (he_ro 12 r8))] ++ (he_pl g L ln M))) (va_runV (As := [.int 0, .int 1, .int 2]) (rest := []) ⟨hx, hb, hml, hown, hts⟩ (c_X11_bad0 l g m0 fd rfm rt_ to_ rw_ wa rk rb cn br sm as_ go sh_ ki tg of_ kp rs ta sz_ pl at_ fa fw cs ct ir (nI oa) (nI ob) (nI th) ig sp_ sf 1 2 H.size) (cwV 3 hts gX11_believed_X11_bad rfl rfl rfl (by decide +kernel) ⟨Nat.le_of_ble_eq_true rfl, Nat.le_of_ble_eq_true rfl⟩) (he_preV (wc := [(oX11 m0 0 ta sz_ pl at_ fa fw cs fd rfm rt_ to_ rw_ wa ct rk rb cn br sm as_ go sh_ ir (nI oa) (nI ob) (nI th) ig sp_ ki tg of_ kp sf rs)]) hK hP hD hS hA hE [0] rfl rfl 0 rfl rfl) rfl rfl hl.1 rfl (lv_room (Nat.le_of_ble_eq_true rfl)) dX11_believed_22 ⟨(Nat.le_of_ble_eq_true rfl), (Nat.le_of_ble_eq_true rfl)⟩) hP hD hS hA [0] (he_is [1] [(oX11 m0 0 ta sz_ pl at_ fa fw cs fd rfm rt_ to_ rw_ wa ct rk rb cn br sm as_ go sh_ ir (nI oa) (nI ob) (nI th) ig sp_ ki tg of_ kp sf rs), (aM g tg 12 (he_ro 12 r8))] (he_pl g L ln M)) rfl (he_ixP rfl) (he_ndP rfl rfl) (he_disN (by decide) rfl) (fun r_5 u_6 H locs h_7 hP hD hS => ?_)
    have hP := va_P.swap hP
    have hD := va_D.swap hD
    subst h_7
    have hP : va_P g.1 vwCl ([(aM g tg 12 (he_ro 12 r8)), (oX11 m0 0 ta sz_ pl at_ fa fw cs fd rfm rt_ to_ rw_ wa ct rk rb cn br sm as_ go sh_ ir (nI oa) (nI ob) (nI th) ig sp_ ki tg of_ kp sf rs)] ++ he_pl g L ln M) H := hP
    have hD : va_D A ([(aM g tg 12 (he_ro 12 r8)), (oX11 m0 0 ta sz_ pl at_ fa fw cs fd rfm rt_ to_ rw_ wa ct rk rb cn br sm as_ go sh_ ir (nI oa) (nI ob) (nI th) ig sp_ ki tg of_ kp sf rs)] ++ he_pl g L ln M) := hD
    refine lv_if_eq (tgt := 30) hx hb dX11_believed_25 (by decide) (fun c_8 => ?_) (fun c_8 => ?_)
    · refine lv_aload_n hx hb dX11_believed_30 rfl (lv_at hl 0 rfl) ?_
      refine va_get (v := .int (nI oa)) (T := TX11) (N := 35) hx hb hts inX11 hown hK hP 1 rfl rfl 24 (by decide) f58 (fun _ h9 => h9) rfl dX11_believed_31 ?_
      refine lv_i2l (v := Int32.toInt64 (nI oa)) hx hb dX11_believed_34 rfl ?_
      refine he_topl (jL oa) (jL_i (by omega)) ?_
      refine lv_lstore_n (lv' := [(2, .long (jL oa)), (0, .ref m0), (1, .int 0)]) hx hb dX11_believed_35 rfl hl (by decide) rfl (fun ls hl => ?_)
      refine lv_aload_n hx hb dX11_believed_36 rfl (lv_at hl 1 rfl) ?_
      refine va_get (v := .int (nI ob)) (T := TX11) (N := 35) hx hb hts inX11 hown hK hP 1 rfl rfl 25 (by decide) f61 (fun _ h9 => h9) rfl dX11_believed_37 ?_
      refine lv_i2l (v := Int32.toInt64 (nI ob)) hx hb dX11_believed_40 rfl ?_
      refine he_topl (jL ob) (jL_i (by omega)) ?_
      refine lv_lstore (lv' := [(4, .long (jL ob)), (2, .long (jL oa)), (0, .ref m0), (1, .int 0)]) hx hb dX11_believed_41 hl (by decide) rfl (fun ls hl => ?_)
      refine lv_iconst (v := 0) hx hb dX11_believed_43 (by decide) ?_
      refine lv_istore (lv' := [(6, .int 0), (4, .long (jL ob)), (2, .long (jL oa)), (0, .ref m0), (1, .int 0)]) hx hb dX11_believed_44 hl (by decide) rfl (fun ls hl => ?_)
      have loop46 : ∀ (n9 : Nat) (kk : Nat) (Aa : Nat) (Bb : Nat), th - kk < n9 → (kk ≤ th) → (1 ≤ Aa) → (Aa ≤ 99 * 16 ^ kk) → (1 ≤ Bb) → (Bb ≤ 99 * 16 ^ kk) → ∀ (H : Heap) (locs : List Loc) (ls : Array Slot), va_P g.1 vwCl ([(oX11 m0 0 ta sz_ pl at_ fa fw cs fd rfm rt_ to_ rw_ wa ct rk rb cn br sm as_ go sh_ ir (nI oa) (nI ob) (nI th) ig sp_ ki tg of_ kp sf rs), (aM g tg 12 (he_ro 12 r8))] ++ he_pl g L ln M) H → va_D A ([(oX11 m0 0 ta sz_ pl at_ fa fw cs fd rfm rt_ to_ rw_ wa ct rk rb cn br sm as_ go sh_ ir (nI oa) (nI ob) (nI th) ig sp_ ki tg of_ kp sf rs), (aM g tg 12 (he_ro 12 r8))] ++ he_pl g L ln M) → va_S A s.heap H locs → lv_has ls 12 [(0, .ref m0), (1, .int 0), (2, .long (jL Aa)), (4, .long (jL Bb)), (6, .int (nI kk))] → W p l e (he_room 1 23 0 0) s m args below meth c H locs 0 0 Q (F0 m 46 ls []) := by
        intro n9
        induction n9 with
        | zero => intro kk Aa Bb hm9; exact absurd hm9 (Nat.not_lt_zero _)
        | succ n9 ih46 =>
          intro kk Aa Bb hm9 hkk hA1 hA2 hB1 hB2 H locs ls hP hD hS hl
          refine lv_iload hx hb dX11_believed_46 (lv_at hl 4 rfl) ?_
          refine lv_aload_n hx hb dX11_believed_48 rfl (lv_at hl 0 rfl) ?_
          refine va_get (v := .int (nI th)) (T := TX11) (N := 35) hx hb hts inX11 hown hK hP 0 rfl rfl 26 (by decide) f165 (fun _ h9 => h9) rfl dX11_believed_49 ?_
          refine lv_icmp_ge (tgt := 89) hx hb dX11_believed_52 (by decide) (fun c_9 => ?_) (fun c_9 => ?_)
          · have k_10 : th ≤ kk := (he_cle (a := th) (b := kk) rfl rfl (by omega) (by omega)).mp c_9
            refine lv_lload_n hx hb dX11_believed_89 rfl (lv_at hl 2 rfl) ?_
            refine lv_lstore (lv' := [(6, .long (jL Aa)), (0, .ref m0), (1, .int 0), (2, .long (jL Aa)), (4, .long (jL Bb))]) hx hb dX11_believed_90 hl (by decide) rfl (fun ls hl => ?_)
            refine lv_lload hx hb dX11_believed_92 (lv_at hl 4 rfl) ?_
            refine lv_lstore (lv' := [(8, .long (jL Bb)), (6, .long (jL Aa)), (0, .ref m0), (1, .int 0), (2, .long (jL Aa)), (4, .long (jL Bb))]) hx hb dX11_believed_94 hl (by decide) rfl (fun ls hl => ?_)
            have loop96 : ∀ (n9 : Nat) (ea : Nat) (eb : Nat), eb < n9 → (ea < 2 ^ 63) → (eb < 2 ^ 63) → (0 < ea + eb) → ∀ (H : Heap) (locs : List Loc) (ls : Array Slot), va_P g.1 vwCl ([(oX11 m0 0 ta sz_ pl at_ fa fw cs fd rfm rt_ to_ rw_ wa ct rk rb cn br sm as_ go sh_ ir (nI oa) (nI ob) (nI th) ig sp_ ki tg of_ kp sf rs), (aM g tg 12 (he_ro 12 r8))] ++ he_pl g L ln M) H → va_D A ([(oX11 m0 0 ta sz_ pl at_ fa fw cs fd rfm rt_ to_ rw_ wa ct rk rb cn br sm as_ go sh_ ir (nI oa) (nI ob) (nI th) ig sp_ ki tg of_ kp sf rs), (aM g tg 12 (he_ro 12 r8))] ++ he_pl g L ln M) → va_S A s.heap H locs → lv_has ls 12 [(0, .ref m0), (1, .int 0), (2, .long (jL Aa)), (4, .long (jL Bb)), (6, .long (jL ea)), (8, .long (jL eb))] → W p l e (he_room 1 23 0 0) s m args below meth c H locs 0 0 Q (F0 m 96 ls []) := by
              intro n9
              induction n9 with
              | zero => intro ea eb hm9; exact absurd hm9 (Nat.not_lt_zero _)
              | succ n9 ih96 =>
                intro ea eb hm9 heal hebl he H locs ls hP hD hS hl
                refine lv_lload hx hb dX11_believed_96 (lv_at hl 5 rfl) ?_
                refine lv_lconst (v := 0) hx hb dX11_believed_98 (by decide) ?_
                refine W.lcmp hx hb dX11_believed_99 ?_
                refine lv_if_eq (tgt := 121) hx hb dX11_believed_100 (by decide) (fun c_11 => ?_) (fun c_11 => ?_)
                · have he0 : eb = 0 := jL_c hebl c_11
                  refine lv_iload_n hx hb dX11_believed_121 rfl (lv_at hl 1 rfl) ?_
                  refine lv_if_ne (tgt := 132) hx hb dX11_believed_122 (by decide) (fun c_12 => ?_) (fun c_12 => ?_)
                  · exact absurd (by decide) c_12
                  · refine lv_lload_n hx hb dX11_believed_125 rfl (lv_at hl 2 rfl) ?_
                    refine lv_lload hx hb dX11_believed_126 (lv_at hl 4 rfl) ?_
                    refine lv_ldiv hx hb dX11_believed_128 (fun h9 => absurd (jL_z heal h9) (by omega)) ?_
                    refine lv_goto (tgt := 137) hx hb dX11_believed_129 (by decide) ?_
                    exact he_rj hQ hx hb hr hlk hP hD hS dX11_believed_137 (Nat.le_of_ble_eq_true rfl) (Nat.le_of_ble_eq_true rfl) (()) (rfl) (trivial)
                · have he1 : ¬ eb = 0 := fun h9 => c_11 (by rw [h9]; decide)
                  refine lv_lload hx hb dX11_believed_103 (lv_at hl 4 rfl) ?_
                  refine lv_lload hx hb dX11_believed_105 (lv_at hl 5 rfl) ?_
                  refine lv_lrem hx hb dX11_believed_107 (fun h9 => he1 (jL_z hebl h9)) ?_
                  refine he_topl (jL (ea % eb)) (jL_rem heal hebl) ?_
                  refine lv_lstore (lv' := [(10, .long (jL (ea % eb))), (0, .ref m0), (1, .int 0), (2, .long (jL Aa)), (4, .long (jL Bb)), (6, .long (jL ea)), (8, .long (jL eb))]) hx hb dX11_believed_108 hl (by decide) rfl (fun ls hl => ?_)
                  refine lv_lload hx hb dX11_believed_110 (lv_at hl 6 rfl) ?_
                  refine lv_lstore (lv' := [(6, .long (jL eb)), (10, .long (jL (ea % eb))), (0, .ref m0), (1, .int 0), (2, .long (jL Aa)), (4, .long (jL Bb)), (8, .long (jL eb))]) hx hb dX11_believed_112 hl (by decide) rfl (fun ls hl => ?_)
                  refine lv_lload hx hb dX11_believed_114 (lv_at hl 1 rfl) ?_
                  refine lv_lstore (lv' := [(8, .long (jL (ea % eb))), (6, .long (jL eb)), (10, .long (jL (ea % eb))), (0, .ref m0), (1, .int 0), (2, .long (jL Aa)), (4, .long (jL Bb))]) hx hb dX11_believed_116 hl (by decide) rfl (fun ls hl => ?_)
                  refine lv_goto (tgt := 96) hx hb dX11_believed_118 (by decide) ?_
                  exact ih96 eb (ea % eb) (by have := Nat.mod_lt ea (Nat.pos_of_ne_zero he1); omega) hebl (by have := Nat.mod_lt ea (Nat.pos_of_ne_zero he1); omega) (by omega) _ _ _ hP hD hS (lv_sub hl [3, 4, 5, 6, 1, 0] rfl)
            exact loop96 ((Bb) + 1) Aa Bb (Nat.lt_succ_self _) (bl_lt hA2 (by omega)) (bl_lt hB2 (by omega)) (by omega) _ _ _ hP hD hS (lv_sub hl [2, 3, 4, 5, 1, 0] rfl)
          · have k_13 : ¬ (th ≤ kk) := fun h9 => c_9 ((he_cle (a := th) (b := kk) rfl rfl (by omega) (by omega)).mpr h9)
            obtain ⟨⟨a0, ha1, ha2, ha3⟩, b0, hb1, hb2, hb3⟩ := htk kk (by omega)
            refine lv_lload_n hx hb dX11_believed_55 rfl (lv_at hl 2 rfl) ?_
            refine lv_aload_n hx hb dX11_believed_56 rfl (lv_at hl 0 rfl) ?_
            refine va_get (v := .ref tg) (T := TX11) (N := 35) hx hb hts inX11 hown hK hP 0 rfl rfl 30 (by decide) f67 (fun _ h9 => h9) rfl dX11_believed_57 ?_
            refine lv_iload hx hb dX11_believed_60 (lv_at hl 4 rfl) ?_
            refine he_aldm hx hb hK hP 1 rfl (kk) rfl (by first | assumption | decide | omega) (by decide) dX11_believed_62 ?_
            refine lv_iconst (v := 0) hx hb dX11_believed_63 (by decide) ?_
            refine he_pald hx hb hK hP (F_r8 kk (by first | assumption | decide | omega)).1 (0) (by decide) (by rw [(F_r8 kk (by first | assumption | decide | omega)).2.1]; exact (by decide)) (by rw [(F_r8 kk (by first | assumption | decide | omega)).2.1]; decide) (nI a0) ha3 dX11_believed_64 ?_
            refine lv_i2l (v := Int32.toInt64 (nI a0)) hx hb dX11_believed_65 rfl ?_
            refine lv_lmul hx hb dX11_believed_66 ?_
            refine he_topl (jL (Aa * a0)) (by rw [jL_i (by omega)]; exact jL_mul _ _) ?_
            refine lv_lstore_n (lv' := [(2, .long (jL (Aa * a0))), (0, .ref m0), (1, .int 0), (4, .long (jL Bb)), (6, .int (nI kk))]) hx hb dX11_believed_67 rfl hl (by decide) rfl (fun ls hl => ?_)
            refine lv_lload hx hb dX11_believed_68 (lv_at hl 3 rfl) ?_
            refine lv_aload_n hx hb dX11_believed_70 rfl (lv_at hl 1 rfl) ?_
            refine va_get (v := .ref tg) (T := TX11) (N := 35) hx hb hts inX11 hown hK hP 0 rfl rfl 30 (by decide) f67 (fun _ h9 => h9) rfl dX11_believed_71 ?_
            refine lv_iload hx hb dX11_believed_74 (lv_at hl 4 rfl) ?_
            refine he_aldm hx hb hK hP 1 rfl (kk) rfl (by first | assumption | decide | omega) (by decide) dX11_believed_76 ?_
            refine lv_iconst (v := 1) hx hb dX11_believed_77 (by decide) ?_
            refine he_pald hx hb hK hP (F_r8 kk (by first | assumption | decide | omega)).1 (1) (by decide) (by rw [(F_r8 kk (by first | assumption | decide | omega)).2.1]; exact (by decide)) (by rw [(F_r8 kk (by first | assumption | decide | omega)).2.1]; decide) (nI b0) hb3 dX11_believed_78 ?_
            refine lv_i2l (v := Int32.toInt64 (nI b0)) hx hb dX11_believed_79 rfl ?_
            refine lv_lmul hx hb dX11_believed_80 ?_
            refine he_topl (jL (Bb * b0)) (by rw [jL_i (by omega)]; exact jL_mul _ _) ?_
            refine lv_lstore (lv' := [(4, .long (jL (Bb * b0))), (2, .long (jL (Aa * a0))), (0, .ref m0), (1, .int 0), (6, .int (nI kk))]) hx hb dX11_believed_81 hl (by decide) rfl (fun ls hl => ?_)
            refine lv_iinc (v := nI (kk + 1)) (lv' := [(6, .int (nI (kk + 1))), (4, .long (jL (Bb * b0))), (2, .long (jL (Aa * a0))), (0, .ref m0), (1, .int 0)]) hx hb dX11_believed_83 hl (k := 4) rfl (nI_1 kk) (by decide) rfl (fun ls hl => ?_)
            refine lv_goto (tgt := 46) hx hb dX11_believed_86 (by decide) ?_
            exact ih46 (kk + 1) (Aa * a0) (Bb * b0) (by omega) (by omega) (Nat.mul_pos hA1 ha1) (bl_s hA2 ha2) (Nat.mul_pos hB1 hb1) (bl_s hB2 hb2) _ _ _ hP hD hS (lv_sub hl [3, 4, 2, 1, 0] rfl)
      have hP := he_Psub (X := [(aM g tg 12 (he_ro 12 r8)), (oX11 m0 0 ta sz_ pl at_ fa fw cs fd rfm rt_ to_ rw_ wa ct rk rb cn br sm as_ go sh_ ir (nI oa) (nI ob) (nI th) ig sp_ ki tg of_ kp sf rs)]) (X2 := [(oX11 m0 0 ta sz_ pl at_ fa fw cs fd rfm rt_ to_ rw_ wa ct rk rb cn br sm as_ go sh_ ir (nI oa) (nI ob) (nI th) ig sp_ ki tg of_ kp sf rs), (aM g tg 12 (he_ro 12 r8))]) (P := (he_pl g L ln M)) hP [1, 0] rfl
      have hD := he_Dsub (X := [(aM g tg 12 (he_ro 12 r8)), (oX11 m0 0 ta sz_ pl at_ fa fw cs fd rfm rt_ to_ rw_ wa ct rk rb cn br sm as_ go sh_ ir (nI oa) (nI ob) (nI th) ig sp_ ki tg of_ kp sf rs)]) (X2 := [(oX11 m0 0 ta sz_ pl at_ fa fw cs fd rfm rt_ to_ rw_ wa ct rk rb cn br sm as_ go sh_ ir (nI oa) (nI ob) (nI th) ig sp_ ki tg of_ kp sf rs), (aM g tg 12 (he_ro 12 r8))]) (P := (he_pl g L ln M)) hD [1, 0] rfl rfl rfl
      exact loop46 ((th - 0) + 1) 0 oa ob (Nat.lt_succ_self _) (Nat.zero_le _) hoa1 (by omega) hob1 (by omega) _ _ _ hP hD hS (lv_sub hl [3, 4, 2, 1, 0] rfl)
    · exact absurd (by decide) c_8
  · exact absurd c_4 (by decide)
set_option maxHeartbeats 4000000 in
set_option maxRecDepth 100000 in
theorem h_X11_believed1 (l : Launch) (g : he_G) (m0 : Nat) (fd : Nat) (rfm : Nat) (rt_ : Nat) (to_ : Nat) (rw_ : Nat) (wa : Nat) (rk : Nat) (rb : Nat) (cn : Nat) (br : Nat) (sm : Nat) (as_ : Nat) (go : Nat) (sh_ : Nat) (ki : Nat) (tg : Nat) (of_ : Nat) (kp : Nat) (rs : Nat) (ta : Int32) (sz_ : Int32) (pl : Int32) (at_ : Int32) (fa : Int32) (fw : Int32) (cs : Int32) (ct : Int32) (ir : Int32) (ig : Int32) (sp_ : Int32) (sf : Int32) (tw : Int32) (oa : Nat) (ob : Nat) (th : Nat) (L : List Nat) (ln : Nat → Nat) (M : Nat → Nat → Int32) (r8 : Nat → Nat) (F_r8 : ∀ i, i < 12 → r8 i ∈ L ∧ ln (r8 i) = 2 ∧ True) (hth : th ≤ 12) (htk : tOk r8 M th) (hoa1 : 1 ≤ oa) (hoa2 : oa ≤ 99) (hob1 : 1 ≤ ob) (hob2 : ob ≤ 99) : he_J l yX11_believed wsX11_believed 1 23 0 0 g [.ref m0, .int 1] ([(oX11 m0 tw ta sz_ pl at_ fa fw cs fd rfm rt_ to_ rw_ wa ct rk rb cn br sm as_ go sh_ ir (nI oa) (nI ob) (nI th) ig sp_ ki tg of_ kp sf rs), (aM g tg 12 (he_ro 12 r8))] ++ he_pl g L ln M) (fun (r : Int64) (u : Unit) => True) (fun (u : Unit) => [(oX11 m0 0 ta sz_ pl at_ fa fw cs fd rfm rt_ to_ rw_ wa ct rk rb cn br sm as_ go sh_ ir (nI oa) (nI ob) (nI th) ig sp_ ki tg of_ kp sf rs), (aM g tg 12 (he_ro 12 r8))] ++ he_pl g L ln M) := by
  refine he_begin (l := l) (g := g) (y := yX11_believed) (wl := wsX11_believed) (fr := 1) (lo := 23) (mc := 0) (ms := 0) (av := [.ref m0, .int 1]) (ws := ([(oX11 m0 tw ta sz_ pl at_ fa fw cs fd rfm rt_ to_ rw_ wa ct rk rb cn br sm as_ go sh_ ir (nI oa) (nI ob) (nI th) ig sp_ ki tg of_ kp sf rs), (aM g tg 12 (he_ro 12 r8))] ++ he_pl g L ln M)) (cc := cX11_believed) (maxL := 12) (ret := (some .long)) (fun A => va_Ql (fun (r : Int64) (u : Unit) => True) (fun u t => he_post g A ((fun (u : Unit) => [(oX11 m0 0 ta sz_ pl at_ fa fw cs fd rfm rt_ to_ rw_ wa ct rk rb cn br sm as_ go sh_ ir (nI oa) (nI ob) (nI th) ig sp_ ki tg of_ kp sf rs), (aM g tg 12 (he_ro 12 r8))] ++ he_pl g L ln M) u) t) A) (by decide) rfl (Nat.le_of_ble_eq_true rfl) ?_
  intro p e s m args below meth c A ls H locs Q hQ hB
  obtain ⟨hx, hb, hr, hml, hown, hts, hlk, hin, hP, hK, hD, hS, hA, hE, hl⟩ := hB
  have hl : lv_has ls 12 [(0, .ref m0), (1, .int 1)] := hl
  have f85 := hts (.fieldLink RX11 85 "HiredEnemyModel" "thrown" "I") (iwoX11_believed (k := 0) rfl)
  have inX11 : ∀ w ∈ wsX110, w ∈ wsX11_believed := innX11_believed_X11
  have f58 := hts (.fieldLink RX11 58 "HiredEnemyModel" "oddsA" "I") (iwoX11_believed (k := 1) rfl)
  have f61 := hts (.fieldLink RX11 61 "HiredEnemyModel" "oddsB" "I") (iwoX11_believed (k := 2) rfl)
  have f165 := hts (.fieldLink RX11 165 "HiredEnemyModel" "things" "I") (iwoX11_believed (k := 3) rfl)
  have f67 := hts (.fieldLink RX11 67 "HiredEnemyModel" "thing" "[[I") (iwoX11_believed (k := 4) rfl)
  refine lv_aload_n hx hb dX11_believed_0 rfl (lv_at hl 0 rfl) ?_
  refine lv_iconst (v := 0) hx hb dX11_believed_1 (by decide) ?_
  refine va_put (v := .int 0) (ty := .int) (T := TX11) (N := 35) hx hb hts inX11 tyX11 tyX11_ok nmX11 hown hK hP hD hS 0 rfl rfl 0 (by decide) f85 (fun _ h9 => h9) rfl (by decide +kernel) rfl rfl (Nat.le_of_ble_eq_true rfl) dX11_believed_2 (fun H locs hP hD hS => ?_)
  have hP : va_P g.1 vwCl ([(oX11 m0 0 ta sz_ pl at_ fa fw cs fd rfm rt_ to_ rw_ wa ct rk rb cn br sm as_ go sh_ ir (nI oa) (nI ob) (nI th) ig sp_ ki tg of_ kp sf rs), (aM g tg 12 (he_ro 12 r8))] ++ he_pl g L ln M) H := hP
  have hD : va_D A ([(oX11 m0 0 ta sz_ pl at_ fa fw cs fd rfm rt_ to_ rw_ wa ct rk rb cn br sm as_ go sh_ ir (nI oa) (nI ob) (nI th) ig sp_ ki tg of_ kp sf rs), (aM g tg 12 (he_ro 12 r8))] ++ he_pl g L ln M) := hD
  refine lv_aload_n hx hb dX11_believed_5 rfl (lv_at hl 0 rfl) ?_
  refine lv_iload_n hx hb dX11_believed_6 rfl (lv_at hl 1 rfl) ?_
  refine lv_iconst (v := 0) hx hb dX11_believed_7 (by decide) ?_
  refine lv_iconst (v := 1) hx hb dX11_believed_8 (by decide) ?_
  refine he_ci (wc := []) (wr := ([(oX11 m0 0 ta sz_ pl at_ fa fw cs fd rfm rt_ to_ rw_ wa ct rk rb cn br sm as_ go sh_ ir (nI oa) (nI ob) (nI th) ig sp_ ki tg of_ kp sf rs), (aM g tg 12 (he_ro 12 r8))] ++ (he_pl g L ln M))) (va_runS (As := [.int 1, .int 0, .int 1]) (rest := [.ref m0]) ⟨hx, hb, hml, hown, hts⟩ (c_X11_in l g 1 0 1 H.size) (va_cwS 3 hts gX11_believed_X11_in rfl rfl rfl (by decide +kernel) ⟨Nat.le_of_ble_eq_true rfl, Nat.le_of_ble_eq_true rfl⟩) (he_preS (wc := []) hK hP hD hS hA hE [] rfl rfl) rfl rfl hl.1 rfl (lv_room (Nat.le_of_ble_eq_true rfl)) dX11_believed_9 ⟨(Nat.le_of_ble_eq_true rfl), (Nat.le_of_ble_eq_true rfl)⟩) hP hD hS hA [] (he_is [0, 1] [(oX11 m0 0 ta sz_ pl at_ fa fw cs fd rfm rt_ to_ rw_ wa ct rk rb cn br sm as_ go sh_ ir (nI oa) (nI ob) (nI th) ig sp_ ki tg of_ kp sf rs), (aM g tg 12 (he_ro 12 r8))] (he_pl g L ln M)) rfl (he_ixP rfl) (he_ndP rfl rfl) (he_disN (by decide) rfl) (fun r_1 u_2 H locs h_3 hP hD hS => ?_)
  have hP := va_P.swap hP
  have hD := va_D.swap hD
  subst h_3
  have hP : va_P g.1 vwCl ([(oX11 m0 0 ta sz_ pl at_ fa fw cs fd rfm rt_ to_ rw_ wa ct rk rb cn br sm as_ go sh_ ir (nI oa) (nI ob) (nI th) ig sp_ ki tg of_ kp sf rs), (aM g tg 12 (he_ro 12 r8))] ++ he_pl g L ln M) H := hP
  have hD : va_D A ([(oX11 m0 0 ta sz_ pl at_ fa fw cs fd rfm rt_ to_ rw_ wa ct rk rb cn br sm as_ go sh_ ir (nI oa) (nI ob) (nI th) ig sp_ ki tg of_ kp sf rs), (aM g tg 12 (he_ro 12 r8))] ++ he_pl g L ln M) := hD
  refine he_top (1) (by decide) ?_
  refine lv_if_ne (tgt := 19) hx hb dX11_believed_12 (by decide) (fun c_4 => ?_) (fun c_4 => ?_)
  · refine lv_iconst (v := 0) hx hb dX11_believed_19 (by decide) ?_
    refine lv_iconst (v := 1) hx hb dX11_believed_20 (by decide) ?_
    refine lv_iconst (v := 2) hx hb dX11_believed_21 (by decide) ?_
    refine he_ci (wc := [(oX11 m0 0 ta sz_ pl at_ fa fw cs fd rfm rt_ to_ rw_ wa ct rk rb cn br sm as_ go sh_ ir (nI oa) (nI ob) (nI th) ig sp_ ki tg of_ kp sf rs)]) (wr := ([(aM g tg 12 (he_ro 12 r8))] ++ (he_pl g L ln M))) (va_runV (As := [.int 0, .int 1, .int 2]) (rest := []) ⟨hx, hb, hml, hown, hts⟩ (c_X11_bad0 l g m0 fd rfm rt_ to_ rw_ wa rk rb cn br sm as_ go sh_ ki tg of_ kp rs ta sz_ pl at_ fa fw cs ct ir (nI oa) (nI ob) (nI th) ig sp_ sf 1 2 H.size) (cwV 3 hts gX11_believed_X11_bad rfl rfl rfl (by decide +kernel) ⟨Nat.le_of_ble_eq_true rfl, Nat.le_of_ble_eq_true rfl⟩) (he_preV (wc := [(oX11 m0 0 ta sz_ pl at_ fa fw cs fd rfm rt_ to_ rw_ wa ct rk rb cn br sm as_ go sh_ ir (nI oa) (nI ob) (nI th) ig sp_ ki tg of_ kp sf rs)]) hK hP hD hS hA hE [0] rfl rfl 0 rfl rfl) rfl rfl hl.1 rfl (lv_room (Nat.le_of_ble_eq_true rfl)) dX11_believed_22 ⟨(Nat.le_of_ble_eq_true rfl), (Nat.le_of_ble_eq_true rfl)⟩) hP hD hS hA [0] (he_is [1] [(oX11 m0 0 ta sz_ pl at_ fa fw cs fd rfm rt_ to_ rw_ wa ct rk rb cn br sm as_ go sh_ ir (nI oa) (nI ob) (nI th) ig sp_ ki tg of_ kp sf rs), (aM g tg 12 (he_ro 12 r8))] (he_pl g L ln M)) rfl (he_ixP rfl) (he_ndP rfl rfl) (he_disN (by decide) rfl) (fun r_5 u_6 H locs h_7 hP hD hS => ?_)
    have hP := va_P.swap hP
    have hD := va_D.swap hD
    subst h_7
    have hP : va_P g.1 vwCl ([(aM g tg 12 (he_ro 12 r8)), (oX11 m0 0 ta sz_ pl at_ fa fw cs fd rfm rt_ to_ rw_ wa ct rk rb cn br sm as_ go sh_ ir (nI oa) (nI ob) (nI th) ig sp_ ki tg of_ kp sf rs)] ++ he_pl g L ln M) H := hP
    have hD : va_D A ([(aM g tg 12 (he_ro 12 r8)), (oX11 m0 0 ta sz_ pl at_ fa fw cs fd rfm rt_ to_ rw_ wa ct rk rb cn br sm as_ go sh_ ir (nI oa) (nI ob) (nI th) ig sp_ ki tg of_ kp sf rs)] ++ he_pl g L ln M) := hD
    refine lv_if_eq (tgt := 30) hx hb dX11_believed_25 (by decide) (fun c_8 => ?_) (fun c_8 => ?_)
    · refine lv_aload_n hx hb dX11_believed_30 rfl (lv_at hl 0 rfl) ?_
      refine va_get (v := .int (nI oa)) (T := TX11) (N := 35) hx hb hts inX11 hown hK hP 1 rfl rfl 24 (by decide) f58 (fun _ h9 => h9) rfl dX11_believed_31 ?_
      refine lv_i2l (v := Int32.toInt64 (nI oa)) hx hb dX11_believed_34 rfl ?_
      refine he_topl (jL oa) (jL_i (by omega)) ?_
      refine lv_lstore_n (lv' := [(2, .long (jL oa)), (0, .ref m0), (1, .int 1)]) hx hb dX11_believed_35 rfl hl (by decide) rfl (fun ls hl => ?_)
      refine lv_aload_n hx hb dX11_believed_36 rfl (lv_at hl 1 rfl) ?_
      refine va_get (v := .int (nI ob)) (T := TX11) (N := 35) hx hb hts inX11 hown hK hP 1 rfl rfl 25 (by decide) f61 (fun _ h9 => h9) rfl dX11_believed_37 ?_
      refine lv_i2l (v := Int32.toInt64 (nI ob)) hx hb dX11_believed_40 rfl ?_
      refine he_topl (jL ob) (jL_i (by omega)) ?_
      refine lv_lstore (lv' := [(4, .long (jL ob)), (2, .long (jL oa)), (0, .ref m0), (1, .int 1)]) hx hb dX11_believed_41 hl (by decide) rfl (fun ls hl => ?_)
      refine lv_iconst (v := 0) hx hb dX11_believed_43 (by decide) ?_
      refine lv_istore (lv' := [(6, .int 0), (4, .long (jL ob)), (2, .long (jL oa)), (0, .ref m0), (1, .int 1)]) hx hb dX11_believed_44 hl (by decide) rfl (fun ls hl => ?_)
      have loop46 : ∀ (n9 : Nat) (kk : Nat) (Aa : Nat) (Bb : Nat), th - kk < n9 → (kk ≤ th) → (1 ≤ Aa) → (Aa ≤ 99 * 16 ^ kk) → (1 ≤ Bb) → (Bb ≤ 99 * 16 ^ kk) → ∀ (H : Heap) (locs : List Loc) (ls : Array Slot), va_P g.1 vwCl ([(oX11 m0 0 ta sz_ pl at_ fa fw cs fd rfm rt_ to_ rw_ wa ct rk rb cn br sm as_ go sh_ ir (nI oa) (nI ob) (nI th) ig sp_ ki tg of_ kp sf rs), (aM g tg 12 (he_ro 12 r8))] ++ he_pl g L ln M) H → va_D A ([(oX11 m0 0 ta sz_ pl at_ fa fw cs fd rfm rt_ to_ rw_ wa ct rk rb cn br sm as_ go sh_ ir (nI oa) (nI ob) (nI th) ig sp_ ki tg of_ kp sf rs), (aM g tg 12 (he_ro 12 r8))] ++ he_pl g L ln M) → va_S A s.heap H locs → lv_has ls 12 [(0, .ref m0), (1, .int 1), (2, .long (jL Aa)), (4, .long (jL Bb)), (6, .int (nI kk))] → W p l e (he_room 1 23 0 0) s m args below meth c H locs 0 0 Q (F0 m 46 ls []) := by
        intro n9
        induction n9 with
        | zero => intro kk Aa Bb hm9; exact absurd hm9 (Nat.not_lt_zero _)
        | succ n9 ih46 =>
          intro kk Aa Bb hm9 hkk hA1 hA2 hB1 hB2 H locs ls hP hD hS hl
          refine lv_iload hx hb dX11_believed_46 (lv_at hl 4 rfl) ?_
          refine lv_aload_n hx hb dX11_believed_48 rfl (lv_at hl 0 rfl) ?_
          refine va_get (v := .int (nI th)) (T := TX11) (N := 35) hx hb hts inX11 hown hK hP 0 rfl rfl 26 (by decide) f165 (fun _ h9 => h9) rfl dX11_believed_49 ?_
          refine lv_icmp_ge (tgt := 89) hx hb dX11_believed_52 (by decide) (fun c_9 => ?_) (fun c_9 => ?_)
          · have k_10 : th ≤ kk := (he_cle (a := th) (b := kk) rfl rfl (by omega) (by omega)).mp c_9
            refine lv_lload_n hx hb dX11_believed_89 rfl (lv_at hl 2 rfl) ?_
            refine lv_lstore (lv' := [(6, .long (jL Aa)), (0, .ref m0), (1, .int 1), (2, .long (jL Aa)), (4, .long (jL Bb))]) hx hb dX11_believed_90 hl (by decide) rfl (fun ls hl => ?_)
            refine lv_lload hx hb dX11_believed_92 (lv_at hl 4 rfl) ?_
            refine lv_lstore (lv' := [(8, .long (jL Bb)), (6, .long (jL Aa)), (0, .ref m0), (1, .int 1), (2, .long (jL Aa)), (4, .long (jL Bb))]) hx hb dX11_believed_94 hl (by decide) rfl (fun ls hl => ?_)
            have loop96 : ∀ (n9 : Nat) (ea : Nat) (eb : Nat), eb < n9 → (ea < 2 ^ 63) → (eb < 2 ^ 63) → (0 < ea + eb) → ∀ (H : Heap) (locs : List Loc) (ls : Array Slot), va_P g.1 vwCl ([(oX11 m0 0 ta sz_ pl at_ fa fw cs fd rfm rt_ to_ rw_ wa ct rk rb cn br sm as_ go sh_ ir (nI oa) (nI ob) (nI th) ig sp_ ki tg of_ kp sf rs), (aM g tg 12 (he_ro 12 r8))] ++ he_pl g L ln M) H → va_D A ([(oX11 m0 0 ta sz_ pl at_ fa fw cs fd rfm rt_ to_ rw_ wa ct rk rb cn br sm as_ go sh_ ir (nI oa) (nI ob) (nI th) ig sp_ ki tg of_ kp sf rs), (aM g tg 12 (he_ro 12 r8))] ++ he_pl g L ln M) → va_S A s.heap H locs → lv_has ls 12 [(0, .ref m0), (1, .int 1), (2, .long (jL Aa)), (4, .long (jL Bb)), (6, .long (jL ea)), (8, .long (jL eb))] → W p l e (he_room 1 23 0 0) s m args below meth c H locs 0 0 Q (F0 m 96 ls []) := by
              intro n9
              induction n9 with
              | zero => intro ea eb hm9; exact absurd hm9 (Nat.not_lt_zero _)
              | succ n9 ih96 =>
                intro ea eb hm9 heal hebl he H locs ls hP hD hS hl
                refine lv_lload hx hb dX11_believed_96 (lv_at hl 5 rfl) ?_
                refine lv_lconst (v := 0) hx hb dX11_believed_98 (by decide) ?_
                refine W.lcmp hx hb dX11_believed_99 ?_
                refine lv_if_eq (tgt := 121) hx hb dX11_believed_100 (by decide) (fun c_11 => ?_) (fun c_11 => ?_)
                · have he0 : eb = 0 := jL_c hebl c_11
                  refine lv_iload_n hx hb dX11_believed_121 rfl (lv_at hl 1 rfl) ?_
                  refine lv_if_ne (tgt := 132) hx hb dX11_believed_122 (by decide) (fun c_12 => ?_) (fun c_12 => ?_)
                  · refine lv_lload hx hb dX11_believed_132 (lv_at hl 3 rfl) ?_
                    refine lv_lload hx hb dX11_believed_134 (lv_at hl 4 rfl) ?_
                    refine lv_ldiv hx hb dX11_believed_136 (fun h9 => absurd (jL_z heal h9) (by omega)) ?_
                    exact he_rj hQ hx hb hr hlk hP hD hS dX11_believed_137 (Nat.le_of_ble_eq_true rfl) (Nat.le_of_ble_eq_true rfl) (()) (rfl) (trivial)
                  · exact absurd c_12 (by decide)
                · have he1 : ¬ eb = 0 := fun h9 => c_11 (by rw [h9]; decide)
                  refine lv_lload hx hb dX11_believed_103 (lv_at hl 4 rfl) ?_
                  refine lv_lload hx hb dX11_believed_105 (lv_at hl 5 rfl) ?_
                  refine lv_lrem hx hb dX11_believed_107 (fun h9 => he1 (jL_z hebl h9)) ?_
                  refine he_topl (jL (ea % eb)) (jL_rem heal hebl) ?_
                  refine lv_lstore (lv' := [(10, .long (jL (ea % eb))), (0, .ref m0), (1, .int 1), (2, .long (jL Aa)), (4, .long (jL Bb)), (6, .long (jL ea)), (8, .long (jL eb))]) hx hb dX11_believed_108 hl (by decide) rfl (fun ls hl => ?_)
                  refine lv_lload hx hb dX11_believed_110 (lv_at hl 6 rfl) ?_
                  refine lv_lstore (lv' := [(6, .long (jL eb)), (10, .long (jL (ea % eb))), (0, .ref m0), (1, .int 1), (2, .long (jL Aa)), (4, .long (jL Bb)), (8, .long (jL eb))]) hx hb dX11_believed_112 hl (by decide) rfl (fun ls hl => ?_)
                  refine lv_lload hx hb dX11_believed_114 (lv_at hl 1 rfl) ?_
                  refine lv_lstore (lv' := [(8, .long (jL (ea % eb))), (6, .long (jL eb)), (10, .long (jL (ea % eb))), (0, .ref m0), (1, .int 1), (2, .long (jL Aa)), (4, .long (jL Bb))]) hx hb dX11_believed_116 hl (by decide) rfl (fun ls hl => ?_)
                  refine lv_goto (tgt := 96) hx hb dX11_believed_118 (by decide) ?_
                  exact ih96 eb (ea % eb) (by have := Nat.mod_lt ea (Nat.pos_of_ne_zero he1); omega) hebl (by have := Nat.mod_lt ea (Nat.pos_of_ne_zero he1); omega) (by omega) _ _ _ hP hD hS (lv_sub hl [3, 4, 5, 6, 1, 0] rfl)
            exact loop96 ((Bb) + 1) Aa Bb (Nat.lt_succ_self _) (bl_lt hA2 (by omega)) (bl_lt hB2 (by omega)) (by omega) _ _ _ hP hD hS (lv_sub hl [2, 3, 4, 5, 1, 0] rfl)
          · have k_13 : ¬ (th ≤ kk) := fun h9 => c_9 ((he_cle (a := th) (b := kk) rfl rfl (by omega) (by omega)).mpr h9)
            obtain ⟨⟨a0, ha1, ha2, ha3⟩, b0, hb1, hb2, hb3⟩ := htk kk (by omega)
            refine lv_lload_n hx hb dX11_believed_55 rfl (lv_at hl 2 rfl) ?_
            refine lv_aload_n hx hb dX11_believed_56 rfl (lv_at hl 0 rfl) ?_
            refine va_get (v := .ref tg) (T := TX11) (N := 35) hx hb hts inX11 hown hK hP 0 rfl rfl 30 (by decide) f67 (fun _ h9 => h9) rfl dX11_believed_57 ?_
            refine lv_iload hx hb dX11_believed_60 (lv_at hl 4 rfl) ?_
            refine he_aldm hx hb hK hP 1 rfl (kk) rfl (by first | assumption | decide | omega) (by decide) dX11_believed_62 ?_
            refine lv_iconst (v := 0) hx hb dX11_believed_63 (by decide) ?_
            refine he_pald hx hb hK hP (F_r8 kk (by first | assumption | decide | omega)).1 (0) (by decide) (by rw [(F_r8 kk (by first | assumption | decide | omega)).2.1]; exact (by decide)) (by rw [(F_r8 kk (by first | assumption | decide | omega)).2.1]; decide) (nI a0) ha3 dX11_believed_64 ?_
            refine lv_i2l (v := Int32.toInt64 (nI a0)) hx hb dX11_believed_65 rfl ?_
            refine lv_lmul hx hb dX11_believed_66 ?_
            refine he_topl (jL (Aa * a0)) (by rw [jL_i (by omega)]; exact jL_mul _ _) ?_
            refine lv_lstore_n (lv' := [(2, .long (jL (Aa * a0))), (0, .ref m0), (1, .int 1), (4, .long (jL Bb)), (6, .int (nI kk))]) hx hb dX11_believed_67 rfl hl (by decide) rfl (fun ls hl => ?_)
            refine lv_lload hx hb dX11_believed_68 (lv_at hl 3 rfl) ?_
            refine lv_aload_n hx hb dX11_believed_70 rfl (lv_at hl 1 rfl) ?_
            refine va_get (v := .ref tg) (T := TX11) (N := 35) hx hb hts inX11 hown hK hP 0 rfl rfl 30 (by decide) f67 (fun _ h9 => h9) rfl dX11_believed_71 ?_
            refine lv_iload hx hb dX11_believed_74 (lv_at hl 4 rfl) ?_
            refine he_aldm hx hb hK hP 1 rfl (kk) rfl (by first | assumption | decide | omega) (by decide) dX11_believed_76 ?_
            refine lv_iconst (v := 1) hx hb dX11_believed_77 (by decide) ?_
            refine he_pald hx hb hK hP (F_r8 kk (by first | assumption | decide | omega)).1 (1) (by decide) (by rw [(F_r8 kk (by first | assumption | decide | omega)).2.1]; exact (by decide)) (by rw [(F_r8 kk (by first | assumption | decide | omega)).2.1]; decide) (nI b0) hb3 dX11_believed_78 ?_
            refine lv_i2l (v := Int32.toInt64 (nI b0)) hx hb dX11_believed_79 rfl ?_
            refine lv_lmul hx hb dX11_believed_80 ?_
            refine he_topl (jL (Bb * b0)) (by rw [jL_i (by omega)]; exact jL_mul _ _) ?_
            refine lv_lstore (lv' := [(4, .long (jL (Bb * b0))), (2, .long (jL (Aa * a0))), (0, .ref m0), (1, .int 1), (6, .int (nI kk))]) hx hb dX11_believed_81 hl (by decide) rfl (fun ls hl => ?_)
            refine lv_iinc (v := nI (kk + 1)) (lv' := [(6, .int (nI (kk + 1))), (4, .long (jL (Bb * b0))), (2, .long (jL (Aa * a0))), (0, .ref m0), (1, .int 1)]) hx hb dX11_believed_83 hl (k := 4) rfl (nI_1 kk) (by decide) rfl (fun ls hl => ?_)
            refine lv_goto (tgt := 46) hx hb dX11_believed_86 (by decide) ?_
            exact ih46 (kk + 1) (Aa * a0) (Bb * b0) (by omega) (by omega) (Nat.mul_pos hA1 ha1) (bl_s hA2 ha2) (Nat.mul_pos hB1 hb1) (bl_s hB2 hb2) _ _ _ hP hD hS (lv_sub hl [3, 4, 2, 1, 0] rfl)
      have hP := he_Psub (X := [(aM g tg 12 (he_ro 12 r8)), (oX11 m0 0 ta sz_ pl at_ fa fw cs fd rfm rt_ to_ rw_ wa ct rk rb cn br sm as_ go sh_ ir (nI oa) (nI ob) (nI th) ig sp_ ki tg of_ kp sf rs)]) (X2 := [(oX11 m0 0 ta sz_ pl at_ fa fw cs fd rfm rt_ to_ rw_ wa ct rk rb cn br sm as_ go sh_ ir (nI oa) (nI ob) (nI th) ig sp_ ki tg of_ kp sf rs), (aM g tg 12 (he_ro 12 r8))]) (P := (he_pl g L ln M)) hP [1, 0] rfl
      have hD := he_Dsub (X := [(aM g tg 12 (he_ro 12 r8)), (oX11 m0 0 ta sz_ pl at_ fa fw cs fd rfm rt_ to_ rw_ wa ct rk rb cn br sm as_ go sh_ ir (nI oa) (nI ob) (nI th) ig sp_ ki tg of_ kp sf rs)]) (X2 := [(oX11 m0 0 ta sz_ pl at_ fa fw cs fd rfm rt_ to_ rw_ wa ct rk rb cn br sm as_ go sh_ ir (nI oa) (nI ob) (nI th) ig sp_ ki tg of_ kp sf rs), (aM g tg 12 (he_ro 12 r8))]) (P := (he_pl g L ln M)) hD [1, 0] rfl rfl rfl
      exact loop46 ((th - 0) + 1) 0 oa ob (Nat.lt_succ_self _) (Nat.zero_le _) hoa1 (by omega) hob1 (by omega) _ _ _ hP hD hS (lv_sub hl [3, 4, 2, 1, 0] rfl)
    · exact absurd (by decide) c_8
  · exact absurd c_4 (by decide)
end
