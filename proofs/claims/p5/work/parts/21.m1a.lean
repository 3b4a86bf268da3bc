/-- the byte at k of a text of n bytes -/
def bAt (fb : Nat → Int32) (n k : Nat) : Int32 := if k < n then fb k else -1
theorem bAt_lt {fb : Nat → Int32} {n k : Nat} {x : Int32} (h : bAt fb n k = x) (hx : ¬ x = -1) : k < n := by
  apply Decidable.byContradiction
  intro h9
  rw [bAt, if_neg h9] at h
  exact hx h.symm
theorem bAt_ge {fb : Nat → Int32} {n k : Nat} {x : Int32} (h : x ≤ bAt fb n k) (hx : -1 < x) : k < n := by
  apply Decidable.byContradiction
  intro h9
  rw [bAt, if_neg h9] at h
  exact absurd (Int32.lt_of_lt_of_le hx h) (by decide)
def wrF (fa a : Int32) : Int32 := if fa = 0 then a else fa
def wrA (fa fw b : Int32) : Int32 := if fa = 0 then b else fw
theorem wrF_ne {fa a : Int32} (ha : ¬ a = 0) : ¬ wrF fa a = 0 := by
  unfold wrF
  split
  · exact ha
  · rename_i h; exact h
def dgI (x : Int32) : Int32 := if x < 48 then 0 else if 57 < x then 0 else 1
theorem dgI_lt {fb : Nat → Int32} {n k : Nat} (h : ¬ dgI (bAt fb n k) = 0) : k < n := by
  apply bAt_ge (x := 48) (fb := fb) _ (by decide)
  apply Int32.not_lt.mp
  intro h9
  apply h
  unfold dgI
  rw [if_pos h9]
/-- alike but at the rows of one table -/
def mEx (r : Nat → Nat) (N : Nat) (M M2 : Nat → Nat → Int32) : Prop := ∀ a, (∀ i, i < N → a ≠ r i) → M2 a = M a
theorem mEx_refl (r : Nat → Nat) (N : Nat) (M : Nat → Nat → Int32) : mEx r N M M := fun _ _ => rfl
theorem mEx_up {r : Nat → Nat} {N : Nat} {M M2 : Nat → Nat → Int32} (h : mEx r N M M2) {i : Nat} (hi : i < N) (f : Nat → Int32) : mEx r N M (va_up M2 (r i) f) := by
  intro a ha
  unfold va_up
  rw [if_neg (ha i hi)]
  exact h a ha
theorem num_in {r : Int32} {B : Nat} {A X Y Z : Prop} (hB : B < 2147483648) (h : (A ∧ r = 0) ∨ (X ∧ Y ∧ ¬ he_within r 0 (nI B) = 0 ∧ Z)) : ∃ j, j ≤ B ∧ r = nI j := by
  rcases h with ⟨-, h⟩ | ⟨-, -, h, -⟩
  · exact ⟨0, Nat.zero_le _, h⟩
  · obtain ⟨q1, q2⟩ := he_within_nat rfl hB h
    exact ⟨_, q2, q1⟩
set_option maxHeartbeats 4000000 in
set_option maxRecDepth 100000 in
theorem h_X11_byteAt (l : Launch) (g : he_G) (m0 : Nat) (fd : Nat) (rfm : Nat) (rt_ : Nat) (to_ : Nat) (rw_ : Nat) (wa : Nat) (rk : Nat) (rb : Nat) (cn : Nat) (br : Nat) (sm : Nat) (as_ : Nat) (go : Nat) (sh_ : Nat) (ki : Nat) (tg : Nat) (of_ : Nat) (kp : Nat) (rs : Nat) (ta : Int32) (pl : Int32) (cs : Int32) (ct : Int32) (ir : Int32) (oa : Int32) (ob : Int32) (th : Int32) (ig : Int32) (sp_ : Int32) (sf : Int32) (tw : Int32) (n : Nat) (k : Nat) (fa : Int32) (fw : Int32) (fb : Nat → Int32) (j : Nat) (hn : n ≤ 500) (hj : j < 2147483648) : he_I l yX11_byteAt wsX11_byteAt 0 0 0 0 g [.ref m0, .int (nI j)] [(oX11 m0 tw ta (nI n) pl (nI k) fa fw cs fd rfm rt_ to_ rw_ wa ct rk rb cn br sm as_ go sh_ ir oa ob th ig sp_ ki tg of_ kp sf rs), (aI g fd 500 fb)] (fun (r : Int32) (u : Unit) => r = bAt fb n j) (fun (u : Unit) => [(oX11 m0 tw ta (nI n) pl (nI k) fa fw cs fd rfm rt_ to_ rw_ wa ct rk rb cn br sm as_ go sh_ ir oa ob th ig sp_ ki tg of_ kp sf rs), (aI g fd 500 fb)]) := by
  refine he_begin (l := l) (g := g) (y := yX11_byteAt) (wl := wsX11_byteAt) (fr := 0) (lo := 0) (mc := 0) (ms := 0) (av := [.ref m0, .int (nI j)]) (ws := [(oX11 m0 tw ta (nI n) pl (nI k) fa fw cs fd rfm rt_ to_ rw_ wa ct rk rb cn br sm as_ go sh_ ir oa ob th ig sp_ ki tg of_ kp sf rs), (aI g fd 500 fb)]) (cc := cX11_byteAt) (maxL := 2) (ret := (some .int)) (fun A => va_Qi (fun (r : Int32) (u : Unit) => r = bAt fb n j) (fun u t => he_post g A ((fun (u : Unit) => [(oX11 m0 tw ta (nI n) pl (nI k) fa fw cs fd rfm rt_ to_ rw_ wa ct rk rb cn br sm as_ go sh_ ir oa ob th ig sp_ ki tg of_ kp sf rs), (aI g fd 500 fb)]) u) t) A) (by decide) rfl (Nat.le_of_ble_eq_true rfl) ?_
  intro p e s m args below meth c A ls H locs Q hQ hB
  obtain ⟨hx, hb, hr, hml, hown, hts, hlk, hin, hP, hK, hD, hS, hA, hE, hl⟩ := hB
  have hl : lv_has ls 2 [(0, .ref m0), (1, .int (nI j))] := hl
  have f91 := hts (.fieldLink RX11 91 "HiredEnemyModel" "size" "I") (iwoX11_byteAt (k := 0) rfl)
  have inX11 : ∀ w ∈ wsX110, w ∈ wsX11_byteAt := innX11_byteAt_X11
  have f13 := hts (.fieldLink RX11 13 "HiredEnemyModel" "fed" "[I") (iwoX11_byteAt (k := 1) rfl)
  refine lv_iload_n hx hb dX11_byteAt_0 rfl (lv_at hl 1 rfl) ?_
  refine lv_aload_n hx hb dX11_byteAt_1 rfl (lv_at hl 0 rfl) ?_
  refine va_get (v := .int (nI n)) (T := TX11) (N := 35) hx hb hts inX11 hown hK hP 0 rfl rfl 2 (by decide) f91 (fun _ h9 => h9) rfl dX11_byteAt_2 ?_
  refine lv_icmp_lt (tgt := 12) hx hb dX11_byteAt_5 (by decide) (fun c_1 => ?_) (fun c_1 => ?_)
  · have k_2 : j < n := (he_clt (a := j) (b := n) rfl rfl (by omega) (by omega)).mp c_1
    refine lv_aload_n hx hb dX11_byteAt_12 rfl (lv_at hl 0 rfl) ?_
    refine va_get (v := .ref fd) (T := TX11) (N := 35) hx hb hts inX11 hown hK hP 0 rfl rfl 8 (by decide) f13 (fun _ h9 => h9) rfl dX11_byteAt_13 ?_
    refine lv_iload_n hx hb dX11_byteAt_16 rfl (lv_at hl 1 rfl) ?_
    refine he_iald hx hb hK hP 1 rfl (j) rfl (by first | assumption | decide | omega) (by first | decide | assumption) (fb j) rfl dX11_byteAt_17 ?_
    exact he_ri hQ hx hb hr hlk hP hD hS dX11_byteAt_18 (Nat.le_of_ble_eq_true rfl) (Nat.le_of_ble_eq_true rfl) (()) (rfl) ((by rw [bAt, if_pos (by omega)]))
  · have k_3 : ¬ (j < n) := fun h9 => c_1 ((he_clt (a := j) (b := n) rfl rfl (by omega) (by omega)).mpr h9)
    refine lv_iconst (v := (-1)) hx hb dX11_byteAt_8 (by decide) ?_
    refine lv_goto (tgt := 18) hx hb dX11_byteAt_9 (by decide) ?_
    exact he_ri hQ hx hb hr hlk hP hD hS dX11_byteAt_18 (Nat.le_of_ble_eq_true rfl) (Nat.le_of_ble_eq_true rfl) (()) (rfl) ((by rw [bAt, if_neg (by omega)]))
set_option maxHeartbeats 4000000 in
set_option maxRecDepth 100000 in
theorem h_X11_blanks (l : Launch) (g : he_G) (m0 : Nat) (fd : Nat) (rfm : Nat) (rt_ : Nat) (to_ : Nat) (rw_ : Nat) (wa : Nat) (rk : Nat) (rb : Nat) (cn : Nat) (br : Nat) (sm : Nat) (as_ : Nat) (go : Nat) (sh_ : Nat) (ki : Nat) (tg : Nat) (of_ : Nat) (kp : Nat) (rs : Nat) (ta : Int32) (pl : Int32) (cs : Int32) (ct : Int32) (ir : Int32) (oa : Int32) (ob : Int32) (th : Int32) (ig : Int32) (sp_ : Int32) (sf : Int32) (tw : Int32) (n : Nat) (k : Nat) (fa : Int32) (fw : Int32) (fb : Nat → Int32) (hn : n ≤ 500) (hk : k ≤ n) : he_V l yX11_blanks wsX11_blanks 1 21 0 0 g [.ref m0] [(oX11 m0 tw ta (nI n) pl (nI k) fa fw cs fd rfm rt_ to_ rw_ wa ct rk rb cn br sm as_ go sh_ ir oa ob th ig sp_ ki tg of_ kp sf rs), (aI g fd 500 fb)] (fun (u : Nat) => k ≤ u ∧ u ≤ n) (fun (u : Nat) => [(oX11 m0 tw ta (nI n) pl (nI u) fa fw cs fd rfm rt_ to_ rw_ wa ct rk rb cn br sm as_ go sh_ ir oa ob th ig sp_ ki tg of_ kp sf rs), (aI g fd 500 fb)]) := by
  refine he_begin (l := l) (g := g) (y := yX11_blanks) (wl := wsX11_blanks) (fr := 1) (lo := 21) (mc := 0) (ms := 0) (av := [.ref m0]) (ws := [(oX11 m0 tw ta (nI n) pl (nI k) fa fw cs fd rfm rt_ to_ rw_ wa ct rk rb cn br sm as_ go sh_ ir oa ob th ig sp_ ki tg of_ kp sf rs), (aI g fd 500 fb)]) (cc := cX11_blanks) (maxL := 1) (ret := none) (fun A => va_Qv (fun (u : Nat) => k ≤ u ∧ u ≤ n) (fun u t => he_post g A ((fun (u : Nat) => [(oX11 m0 tw ta (nI n) pl (nI u) fa fw cs fd rfm rt_ to_ rw_ wa ct rk rb cn br sm as_ go sh_ ir oa ob th ig sp_ ki tg of_ kp sf rs), (aI g fd 500 fb)]) u) t) A) (by decide) rfl (Nat.le_of_ble_eq_true rfl) ?_
  intro p e s m args below meth c A ls H locs Q hQ hB
  obtain ⟨hx, hb, hr, hml, hown, hts, hlk, hin, hP, hK, hD, hS, hA, hE, hl⟩ := hB
  have hl : lv_has ls 1 [(0, .ref m0)] := hl
  have f94 := hts (.fieldLink RX11 94 "HiredEnemyModel" "at" "I") (iwoX11_blanks (k := 0) rfl)
  have inX11 : ∀ w ∈ wsX110, w ∈ wsX11_blanks := innX11_blanks_X11
  have loop0 : ∀ (n9 : Nat) (i : Nat), n - i < n9 → (k ≤ i) → (i ≤ n) → ∀ (H : Heap) (locs : List Loc) (ls : Array Slot), va_P g.1 vwCl [(oX11 m0 tw ta (nI n) pl (nI i) fa fw cs fd rfm rt_ to_ rw_ wa ct rk rb cn br sm as_ go sh_ ir oa ob th ig sp_ ki tg of_ kp sf rs), (aI g fd 500 fb)] H → va_D A [(oX11 m0 tw ta (nI n) pl (nI i) fa fw cs fd rfm rt_ to_ rw_ wa ct rk rb cn br sm as_ go sh_ ir oa ob th ig sp_ ki tg of_ kp sf rs), (aI g fd 500 fb)] → va_S A s.heap H locs → lv_has ls 1 [(0, .ref m0)] → W p l e (he_room 1 21 0 0) s m args below meth c H locs 0 0 Q (F0 m 0 ls []) := by
    intro n9
    induction n9 with
    | zero => intro i hm9; exact absurd hm9 (Nat.not_lt_zero _)
    | succ n9 ih0 =>
      intro i hm9 hi1 hi2 H locs ls hP hD hS hl
      refine lv_aload_n hx hb dX11_blanks_0 rfl (lv_at hl 0 rfl) ?_
      refine lv_aload_n hx hb dX11_blanks_1 rfl (lv_at hl 0 rfl) ?_
      refine va_get (v := .int (nI i)) (T := TX11) (N := 35) hx hb hts inX11 hown hK hP 0 rfl rfl 4 (by decide) f94 (fun _ h9 => h9) rfl dX11_blanks_2 ?_
      refine he_ci (wc := [(oX11 m0 tw ta (nI n) pl (nI i) fa fw cs fd rfm rt_ to_ rw_ wa ct rk rb cn br sm as_ go sh_ ir oa ob th ig sp_ ki tg of_ kp sf rs), (aI g fd 500 fb)]) (wr := []) (va_runV (As := [.int (nI i)]) (rest := []) ⟨hx, hb, hml, hown, hts⟩ (h_X11_byteAt l g m0 fd rfm rt_ to_ rw_ wa rk rb cn br sm as_ go sh_ ki tg of_ kp rs ta pl cs ct ir oa ob th ig sp_ sf tw n i fa fw fb i (by first | assumption | decide | omega) (by first | assumption | decide | omega) H.size) (cwV 1 hts gX11_blanks_X11_byteAt rfl rfl rfl (by decide +kernel) ⟨Nat.le_of_ble_eq_true rfl, Nat.le_of_ble_eq_true rfl⟩) (he_preV (wc := [(oX11 m0 tw ta (nI n) pl (nI i) fa fw cs fd rfm rt_ to_ rw_ wa ct rk rb cn br sm as_ go sh_ ir oa ob th ig sp_ ki tg of_ kp sf rs), (aI g fd 500 fb)]) hK hP hD hS hA hE [0, 1] rfl rfl 0 rfl rfl) rfl rfl hl.1 rfl (lv_room (Nat.le_of_ble_eq_true rfl)) dX11_blanks_5 ⟨(Nat.le_of_ble_eq_true rfl), (Nat.le_of_ble_eq_true rfl)⟩) hP hD hS hA [0, 1] [] rfl rfl rfl (by decide) (fun r_1 u_2 H locs h_3 hP hD hS => ?_)
      subst h_3
      have hP : va_P g.1 vwCl [(oX11 m0 tw ta (nI n) pl (nI i) fa fw cs fd rfm rt_ to_ rw_ wa ct rk rb cn br sm as_ go sh_ ir oa ob th ig sp_ ki tg of_ kp sf rs), (aI g fd 500 fb)] H := hP
      have hD : va_D A [(oX11 m0 tw ta (nI n) pl (nI i) fa fw cs fd rfm rt_ to_ rw_ wa ct rk rb cn br sm as_ go sh_ ir oa ob th ig sp_ ki tg of_ kp sf rs), (aI g fd 500 fb)] := hD
      refine lv_bipush (v := 32) hx hb dX11_blanks_8 (by decide) ?_
      refine lv_icmp_ne (tgt := 26) hx hb dX11_blanks_10 (by decide) (fun c_4 => ?_) (fun c_4 => ?_)
      · exact he_rv hQ hx hb hr hlk hP hD hS dX11_blanks_26 (Nat.le_of_ble_eq_true rfl) (Nat.le_of_ble_eq_true rfl) (i) (rfl) (⟨by omega, by omega⟩)
      · have hlt : i < n := bAt_lt c_4 (by decide)
        refine lv_aload_n hx hb dX11_blanks_13 rfl (lv_at hl 0 rfl) ?_
        refine lv_dup hx hb dX11_blanks_14 rfl ?_
        refine va_get (v := .int (nI i)) (T := TX11) (N := 35) hx hb hts inX11 hown hK hP 0 rfl rfl 4 (by decide) f94 (fun _ h9 => h9) rfl dX11_blanks_15 ?_
        refine lv_iconst (v := 1) hx hb dX11_blanks_18 (by decide) ?_
        refine lv_iadd hx hb dX11_blanks_19 ?_
        refine he_top (nI (i + 1)) (nI_add i 1) ?_
        refine va_put (v := .int (nI (i + 1))) (ty := .int) (T := TX11) (N := 35) hx hb hts inX11 tyX11 tyX11_ok nmX11 hown hK hP hD hS 0 rfl rfl 4 (by decide) f94 (fun _ h9 => h9) rfl (by decide +kernel) rfl rfl (Nat.le_of_ble_eq_true rfl) dX11_blanks_20 (fun H locs hP hD hS => ?_)
        have hP : va_P g.1 vwCl [(oX11 m0 tw ta (nI n) pl (nI (i + 1)) fa fw cs fd rfm rt_ to_ rw_ wa ct rk rb cn br sm as_ go sh_ ir oa ob th ig sp_ ki tg of_ kp sf rs), (aI g fd 500 fb)] H := hP
        have hD : va_D A [(oX11 m0 tw ta (nI n) pl (nI (i + 1)) fa fw cs fd rfm rt_ to_ rw_ wa ct rk rb cn br sm as_ go sh_ ir oa ob th ig sp_ ki tg of_ kp sf rs), (aI g fd 500 fb)] := hD
        refine lv_goto (tgt := 0) hx hb dX11_blanks_23 (by decide) ?_
        exact ih0 (i + 1) (by omega) (by omega) (by omega) _ _ _ hP hD hS (lv_sub hl [0] rfl)
  exact loop0 ((n - k) + 1) k (Nat.lt_succ_self _) (Nat.le_refl _) hk _ _ _ hP hD hS (lv_sub hl [0] rfl)
set_option maxHeartbeats 4000000 in
set_option maxRecDepth 100000 in
theorem h_X11_skipWord (l : Launch) (g : he_G) (m0 : Nat) (fd : Nat) (rfm : Nat) (rt_ : Nat) (to_ : Nat) (rw_ : Nat) (wa : Nat) (rk : Nat) (rb : Nat) (cn : Nat) (br : Nat) (sm : Nat) (as_ : Nat) (go : Nat) (sh_ : Nat) (ki : Nat) (tg : Nat) (of_ : Nat) (kp : Nat) (rs : Nat) (ta : Int32) (pl : Int32) (cs : Int32) (ct : Int32) (ir : Int32) (oa : Int32) (ob : Int32) (th : Int32) (ig : Int32) (sp_ : Int32) (sf : Int32) (tw : Int32) (n : Nat) (k : Nat) (fa : Int32) (fw : Int32) (fb : Nat → Int32) (hn : n ≤ 500) (hk : k ≤ n) : he_V l yX11_skipWord wsX11_skipWord 1 21 0 0 g [.ref m0] [(oX11 m0 tw ta (nI n) pl (nI k) fa fw cs fd rfm rt_ to_ rw_ wa ct rk rb cn br sm as_ go sh_ ir oa ob th ig sp_ ki tg of_ kp sf rs), (aI g fd 500 fb)] (fun (u : Nat) => k ≤ u ∧ u ≤ n) (fun (u : Nat) => [(oX11 m0 tw ta (nI n) pl (nI u) fa fw cs fd rfm rt_ to_ rw_ wa ct rk rb cn br sm as_ go sh_ ir oa ob th ig sp_ ki tg of_ kp sf rs), (aI g fd 500 fb)]) := by
  refine he_begin (l := l) (g := g) (y := yX11_skipWord) (wl := wsX11_skipWord) (fr := 1) (lo := 21) (mc := 0) (ms := 0) (av := [.ref m0]) (ws := [(oX11 m0 tw ta (nI n) pl (nI k) fa fw cs fd rfm rt_ to_ rw_ wa ct rk rb cn br sm as_ go sh_ ir oa ob th ig sp_ ki tg of_ kp sf rs), (aI g fd 500 fb)]) (cc := cX11_skipWord) (maxL := 1) (ret := none) (fun A => va_Qv (fun (u : Nat) => k ≤ u ∧ u ≤ n) (fun u t => he_post g A ((fun (u : Nat) => [(oX11 m0 tw ta (nI n) pl (nI u) fa fw cs fd rfm rt_ to_ rw_ wa ct rk rb cn br sm as_ go sh_ ir oa ob th ig sp_ ki tg of_ kp sf rs), (aI g fd 500 fb)]) u) t) A) (by decide) rfl (Nat.le_of_ble_eq_true rfl) ?_
  intro p e s m args below meth c A ls H locs Q hQ hB
  obtain ⟨hx, hb, hr, hml, hown, hts, hlk, hin, hP, hK, hD, hS, hA, hE, hl⟩ := hB
  have hl : lv_has ls 1 [(0, .ref m0)] := hl
  have f94 := hts (.fieldLink RX11 94 "HiredEnemyModel" "at" "I") (iwoX11_skipWord (k := 0) rfl)
  have inX11 : ∀ w ∈ wsX110, w ∈ wsX11_skipWord := innX11_skipWord_X11
  have loop0 : ∀ (n9 : Nat) (i : Nat), n - i < n9 → (k ≤ i) → (i ≤ n) → ∀ (H : Heap) (locs : List Loc) (ls : Array Slot), va_P g.1 vwCl [(oX11 m0 tw ta (nI n) pl (nI i) fa fw cs fd rfm rt_ to_ rw_ wa ct rk rb cn br sm as_ go sh_ ir oa ob th ig sp_ ki tg of_ kp sf rs), (aI g fd 500 fb)] H → va_D A [(oX11 m0 tw ta (nI n) pl (nI i) fa fw cs fd rfm rt_ to_ rw_ wa ct rk rb cn br sm as_ go sh_ ir oa ob th ig sp_ ki tg of_ kp sf rs), (aI g fd 500 fb)] → va_S A s.heap H locs → lv_has ls 1 [(0, .ref m0)] → W p l e (he_room 1 21 0 0) s m args below meth c H locs 0 0 Q (F0 m 0 ls []) := by
    intro n9
    induction n9 with
    | zero => intro i hm9; exact absurd hm9 (Nat.not_lt_zero _)
    | succ n9 ih0 =>
      intro i hm9 hi1 hi2 H locs ls hP hD hS hl
      refine lv_aload_n hx hb dX11_skipWord_0 rfl (lv_at hl 0 rfl) ?_
      refine lv_aload_n hx hb dX11_skipWord_1 rfl (lv_at hl 0 rfl) ?_
      refine va_get (v := .int (nI i)) (T := TX11) (N := 35) hx hb hts inX11 hown hK hP 0 rfl rfl 4 (by decide) f94 (fun _ h9 => h9) rfl dX11_skipWord_2 ?_
      refine he_ci (wc := [(oX11 m0 tw ta (nI n) pl (nI i) fa fw cs fd rfm rt_ to_ rw_ wa ct rk rb cn br sm as_ go sh_ ir oa ob th ig sp_ ki tg of_ kp sf rs), (aI g fd 500 fb)]) (wr := []) (va_runV (As := [.int (nI i)]) (rest := []) ⟨hx, hb, hml, hown, hts⟩ (h_X11_byteAt l g m0 fd rfm rt_ to_ rw_ wa rk rb cn br sm as_ go sh_ ki tg of_ kp rs ta pl cs ct ir oa ob th ig sp_ sf tw n i fa fw fb i (by first | assumption | decide | omega) (by first | assumption | decide | omega) H.size) (cwV 1 hts gX11_skipWord_X11_byteAt rfl rfl rfl (by decide +kernel) ⟨Nat.le_of_ble_eq_true rfl, Nat.le_of_ble_eq_true rfl⟩) (he_preV (wc := [(oX11 m0 tw ta (nI n) pl (nI i) fa fw cs fd rfm rt_ to_ rw_ wa ct rk rb cn br sm as_ go sh_ ir oa ob th ig sp_ ki tg of_ kp sf rs), (aI g fd 500 fb)]) hK hP hD hS hA hE [0, 1] rfl rfl 0 rfl rfl) rfl rfl hl.1 rfl (lv_room (Nat.le_of_ble_eq_true rfl)) dX11_skipWord_5 ⟨(Nat.le_of_ble_eq_true rfl), (Nat.le_of_ble_eq_true rfl)⟩) hP hD hS hA [0, 1] [] rfl rfl rfl (by decide) (fun r_1 u_2 H locs h_3 hP hD hS => ?_)
      subst h_3
      have hP : va_P g.1 vwCl [(oX11 m0 tw ta (nI n) pl (nI i) fa fw cs fd rfm rt_ to_ rw_ wa ct rk rb cn br sm as_ go sh_ ir oa ob th ig sp_ ki tg of_ kp sf rs), (aI g fd 500 fb)] H := hP
      have hD : va_D A [(oX11 m0 tw ta (nI n) pl (nI i) fa fw cs fd rfm rt_ to_ rw_ wa ct rk rb cn br sm as_ go sh_ ir oa ob th ig sp_ ki tg of_ kp sf rs), (aI g fd 500 fb)] := hD
      refine lv_bipush (v := 97) hx hb dX11_skipWord_8 (by decide) ?_
      refine lv_icmp_lt (tgt := 39) hx hb dX11_skipWord_10 (by decide) (fun c_4 => ?_) (fun c_4 => ?_)
      · exact he_rv hQ hx hb hr hlk hP hD hS dX11_skipWord_39 (Nat.le_of_ble_eq_true rfl) (Nat.le_of_ble_eq_true rfl) (i) (rfl) (⟨by omega, by omega⟩)
      · have hlt : i < n := bAt_ge (Int32.not_lt.mp c_4) (by decide)
        refine lv_aload_n hx hb dX11_skipWord_13 rfl (lv_at hl 0 rfl) ?_
        refine lv_aload_n hx hb dX11_skipWord_14 rfl (lv_at hl 0 rfl) ?_
        refine va_get (v := .int (nI i)) (T := TX11) (N := 35) hx hb hts inX11 hown hK hP 0 rfl rfl 4 (by decide) f94 (fun _ h9 => h9) rfl dX11_skipWord_15 ?_
        refine he_ci (wc := [(oX11 m0 tw ta (nI n) pl (nI i) fa fw cs fd rfm rt_ to_ rw_ wa ct rk rb cn br sm as_ go sh_ ir oa ob th ig sp_ ki tg of_ kp sf rs), (aI g fd 500 fb)]) (wr := []) (va_runV (As := [.int (nI i)]) (rest := []) ⟨hx, hb, hml, hown, hts⟩ (h_X11_byteAt l g m0 fd rfm rt_ to_ rw_ wa rk rb cn br sm as_ go sh_ ki tg of_ kp rs ta pl cs ct ir oa ob th ig sp_ sf tw n i fa fw fb i (by first | assumption | decide | omega) (by first | assumption | decide | omega) H.size) (cwV 1 hts gX11_skipWord_X11_byteAt rfl rfl rfl (by decide +kernel) ⟨Nat.le_of_ble_eq_true rfl, Nat.le_of_ble_eq_true rfl⟩) (he_preV (wc := [(oX11 m0 tw ta (nI n) pl (nI i) fa fw cs fd rfm rt_ to_ rw_ wa ct rk rb cn br sm as_ go sh_ ir oa ob th ig sp_ ki tg of_ kp sf rs), (aI g fd 500 fb)]) hK hP hD hS hA hE [0, 1] rfl rfl 0 rfl rfl) rfl rfl hl.1 rfl (lv_room (Nat.le_of_ble_eq_true rfl)) dX11_skipWord_18 ⟨(Nat.le_of_ble_eq_true rfl), (Nat.le_of_ble_eq_true rfl)⟩) hP hD hS hA [0, 1] [] rfl rfl rfl (by decide) (fun r_5 u_6 H locs h_7 hP hD hS => ?_)
        subst h_7
        have hP : va_P g.1 vwCl [(oX11 m0 tw ta (nI n) pl (nI i) fa fw cs fd rfm rt_ to_ rw_ wa ct rk rb cn br sm as_ go sh_ ir oa ob th ig sp_ ki tg of_ kp sf rs), (aI g fd 500 fb)] H := hP
        have hD : va_D A [(oX11 m0 tw ta (nI n) pl (nI i) fa fw cs fd rfm rt_ to_ rw_ wa ct rk rb cn br sm as_ go sh_ ir oa ob th ig sp_ ki tg of_ kp sf rs), (aI g fd 500 fb)] := hD
        refine lv_bipush (v := 122) hx hb dX11_skipWord_21 (by decide) ?_
        refine lv_icmp_gt (tgt := 39) hx hb dX11_skipWord_23 (by decide) (fun c_8 => ?_) (fun c_8 => ?_)
        · exact he_rv hQ hx hb hr hlk hP hD hS dX11_skipWord_39 (Nat.le_of_ble_eq_true rfl) (Nat.le_of_ble_eq_true rfl) (i) (rfl) (⟨by omega, by omega⟩)
        · refine lv_aload_n hx hb dX11_skipWord_26 rfl (lv_at hl 0 rfl) ?_
          refine lv_dup hx hb dX11_skipWord_27 rfl ?_
          refine va_get (v := .int (nI i)) (T := TX11) (N := 35) hx hb hts inX11 hown hK hP 0 rfl rfl 4 (by decide) f94 (fun _ h9 => h9) rfl dX11_skipWord_28 ?_
          refine lv_iconst (v := 1) hx hb dX11_skipWord_31 (by decide) ?_
          refine lv_iadd hx hb dX11_skipWord_32 ?_
          refine he_top (nI (i + 1)) (nI_add i 1) ?_
          refine va_put (v := .int (nI (i + 1))) (ty := .int) (T := TX11) (N := 35) hx hb hts inX11 tyX11 tyX11_ok nmX11 hown hK hP hD hS 0 rfl rfl 4 (by decide) f94 (fun _ h9 => h9) rfl (by decide +kernel) rfl rfl (Nat.le_of_ble_eq_true rfl) dX11_skipWord_33 (fun H locs hP hD hS => ?_)
          have hP : va_P g.1 vwCl [(oX11 m0 tw ta (nI n) pl (nI (i + 1)) fa fw cs fd rfm rt_ to_ rw_ wa ct rk rb cn br sm as_ go sh_ ir oa ob th ig sp_ ki tg of_ kp sf rs), (aI g fd 500 fb)] H := hP
          have hD : va_D A [(oX11 m0 tw ta (nI n) pl (nI (i + 1)) fa fw cs fd rfm rt_ to_ rw_ wa ct rk rb cn br sm as_ go sh_ ir oa ob th ig sp_ ki tg of_ kp sf rs), (aI g fd 500 fb)] := hD
          refine lv_goto (tgt := 0) hx hb dX11_skipWord_36 (by decide) ?_
          exact ih0 (i + 1) (by omega) (by omega) (by omega) _ _ _ hP hD hS (lv_sub hl [0] rfl)
  exact loop0 ((n - k) + 1) k (Nat.lt_succ_self _) (Nat.le_refl _) hk _ _ _ hP hD hS (lv_sub hl [0] rfl)
set_option maxHeartbeats 4000000 in
set_option maxRecDepth 100000 in
theorem h_X11_wrong (l : Launch) (g : he_G) (m0 : Nat) (fd : Nat) (rfm : Nat) (rt_ : Nat) (to_ : Nat) (rw_ : Nat) (wa : Nat) (rk : Nat) (rb : Nat) (cn : Nat) (br : Nat) (sm : Nat) (as_ : Nat) (go : Nat) (sh_ : Nat) (ki : Nat) (tg : Nat) (of_ : Nat) (kp : Nat) (rs : Nat) (ta : Int32) (pl : Int32) (cs : Int32) (ct : Int32) (ir : Int32) (oa : Int32) (ob : Int32) (th : Int32) (ig : Int32) (sp_ : Int32) (sf : Int32) (tw : Int32) (n : Nat) (k : Nat) (fa : Int32) (fw : Int32) (fb : Nat → Int32) (a : Int32) (b : Int32)  : he_V l yX11_wrong wsX11_wrong 0 0 0 0 g [.ref m0, .int a, .int b] [(oX11 m0 tw ta (nI n) pl (nI k) fa fw cs fd rfm rt_ to_ rw_ wa ct rk rb cn br sm as_ go sh_ ir oa ob th ig sp_ ki tg of_ kp sf rs), (aI g fd 500 fb)] (fun (u : Unit) => True) (fun (u : Unit) => [(oX11 m0 tw ta (nI n) pl (nI k) (wrF fa a) (wrA fa fw b) cs fd rfm rt_ to_ rw_ wa ct rk rb cn br sm as_ go sh_ ir oa ob th ig sp_ ki tg of_ kp sf rs), (aI g fd 500 fb)]) := by
  refine he_begin (l := l) (g := g) (y := yX11_wrong) (wl := wsX11_wrong) (fr := 0) (lo := 0) (mc := 0) (ms := 0) (av := [.ref m0, .int a, .int b]) (ws := [(oX11 m0 tw ta (nI n) pl (nI k) fa fw cs fd rfm rt_ to_ rw_ wa ct rk rb cn br sm as_ go sh_ ir oa ob th ig sp_ ki tg of_ kp sf rs), (aI g fd 500 fb)]) (cc := cX11_wrong) (maxL := 3) (ret := none) (fun A => va_Qv (fun (u : Unit) => True) (fun u t => he_post g A ((fun (u : Unit) => [(oX11 m0 tw ta (nI n) pl (nI k) (wrF fa a) (wrA fa fw b) cs fd rfm rt_ to_ rw_ wa ct rk rb cn br sm as_ go sh_ ir oa ob th ig sp_ ki tg of_ kp sf rs), (aI g fd 500 fb)]) u) t) A) (by decide) rfl (Nat.le_of_ble_eq_true rfl) ?_
  intro p e s m args below meth c A ls H locs Q hQ hB
  obtain ⟨hx, hb, hr, hml, hown, hts, hlk, hin, hP, hK, hD, hS, hA, hE, hl⟩ := hB
  have hl : lv_has ls 3 [(0, .ref m0), (1, .int a), (2, .int b)] := hl
  have f101 := hts (.fieldLink RX11 101 "HiredEnemyModel" "fault" "I") (iwoX11_wrong (k := 0) rfl)
  have inX11 : ∀ w ∈ wsX110, w ∈ wsX11_wrong := innX11_wrong_X11
  have f104 := hts (.fieldLink RX11 104 "HiredEnemyModel" "faultAt" "I") (iwoX11_wrong (k := 1) rfl)
  refine lv_aload_n hx hb dX11_wrong_0 rfl (lv_at hl 0 rfl) ?_
  refine va_get (v := .int fa) (T := TX11) (N := 35) hx hb hts inX11 hown hK hP 0 rfl rfl 5 (by decide) f101 (fun _ h9 => h9) rfl dX11_wrong_1 ?_
  refine lv_if_ne (tgt := 17) hx hb dX11_wrong_4 (by decide) (fun c_1 => ?_) (fun c_1 => ?_)
  · exact he_rv hQ hx hb hr hlk hP hD hS dX11_wrong_17 (Nat.le_of_ble_eq_true rfl) (Nat.le_of_ble_eq_true rfl) (()) (by simp only [wrF, wrA, if_neg c_1]) (trivial)
  · refine lv_aload_n hx hb dX11_wrong_7 rfl (lv_at hl 0 rfl) ?_
    refine lv_iload_n hx hb dX11_wrong_8 rfl (lv_at hl 1 rfl) ?_
    refine va_put (v := .int a) (ty := .int) (T := TX11) (N := 35) hx hb hts inX11 tyX11 tyX11_ok nmX11 hown hK hP hD hS 0 rfl rfl 5 (by decide) f101 (fun _ h9 => h9) rfl (by decide +kernel) rfl rfl (Nat.le_of_ble_eq_true rfl) dX11_wrong_9 (fun H locs hP hD hS => ?_)
    have hP : va_P g.1 vwCl [(oX11 m0 tw ta (nI n) pl (nI k) a fw cs fd rfm rt_ to_ rw_ wa ct rk rb cn br sm as_ go sh_ ir oa ob th ig sp_ ki tg of_ kp sf rs), (aI g fd 500 fb)] H := hP
    have hD : va_D A [(oX11 m0 tw ta (nI n) pl (nI k) a fw cs fd rfm rt_ to_ rw_ wa ct rk rb cn br sm as_ go sh_ ir oa ob th ig sp_ ki tg of_ kp sf rs), (aI g fd 500 fb)] := hD
    refine lv_aload_n hx hb dX11_wrong_12 rfl (lv_at hl 0 rfl) ?_
    refine lv_iload_n hx hb dX11_wrong_13 rfl (lv_at hl 2 rfl) ?_
    refine va_put (v := .int b) (ty := .int) (T := TX11) (N := 35) hx hb hts inX11 tyX11 tyX11_ok nmX11 hown hK hP hD hS 0 rfl rfl 6 (by decide) f104 (fun _ h9 => h9) rfl (by decide +kernel) rfl rfl (Nat.le_of_ble_eq_true rfl) dX11_wrong_14 (fun H locs hP hD hS => ?_)
    have hP : va_P g.1 vwCl [(oX11 m0 tw ta (nI n) pl (nI k) a b cs fd rfm rt_ to_ rw_ wa ct rk rb cn br sm as_ go sh_ ir oa ob th ig sp_ ki tg of_ kp sf rs), (aI g fd 500 fb)] H := hP
    have hD : va_D A [(oX11 m0 tw ta (nI n) pl (nI k) a b cs fd rfm rt_ to_ rw_ wa ct rk rb cn br sm as_ go sh_ ir oa ob th ig sp_ ki tg of_ kp sf rs), (aI g fd 500 fb)] := hD
    exact he_rv hQ hx hb hr hlk hP hD hS dX11_wrong_17 (Nat.le_of_ble_eq_true rfl) (Nat.le_of_ble_eq_true rfl) (()) (by simp only [wrF, wrA, if_pos c_1]) (trivial)
set_option maxHeartbeats 4000000 in
set_option maxRecDepth 100000 in
theorem h_X11_isDigit (l : Launch) (g : he_G) (x : Int32)  : he_I l yX11_isDigit wsX11_isDigit 0 0 0 0 g [.int x] [] (fun (r : Int32) (u : Unit) => r = dgI x) (fun (u : Unit) => []) := by
  refine he_begin (l := l) (g := g) (y := yX11_isDigit) (wl := wsX11_isDigit) (fr := 0) (lo := 0) (mc := 0) (ms := 0) (av := [.int x]) (ws := []) (cc := cX11_isDigit) (maxL := 1) (ret := (some .boolean)) (fun A => va_Qi (fun (r : Int32) (u : Unit) => r = dgI x) (fun u t => he_post g A ((fun (u : Unit) => []) u) t) A) (by decide) rfl (Nat.le_of_ble_eq_true rfl) ?_
  intro p e s m args below meth c A ls H locs Q hQ hB
  obtain ⟨hx, hb, hr, hml, hown, hts, hlk, hin, hP, hK, hD, hS, hA, hE, hl⟩ := hB
  have hl : lv_has ls 1 [(0, .int x)] := hl
  refine lv_iload_n hx hb dX11_isDigit_0 rfl (lv_at hl 0 rfl) ?_
  refine lv_bipush (v := 48) hx hb dX11_isDigit_1 (by decide) ?_
  refine lv_icmp_lt (tgt := 16) hx hb dX11_isDigit_3 (by decide) (fun c_1 => ?_) (fun c_1 => ?_)
  · refine lv_iconst (v := 0) hx hb dX11_isDigit_16 (by decide) ?_
    exact he_rz hQ hx hb hr hlk hP hD hS dX11_isDigit_17 (Nat.le_of_ble_eq_true rfl) (Nat.le_of_ble_eq_true rfl) rfl (()) (rfl) (by simp [dgI, c_1])
  · refine lv_iload_n hx hb dX11_isDigit_6 rfl (lv_at hl 0 rfl) ?_
    refine lv_bipush (v := 57) hx hb dX11_isDigit_7 (by decide) ?_
    refine lv_icmp_gt (tgt := 16) hx hb dX11_isDigit_9 (by decide) (fun c_2 => ?_) (fun c_2 => ?_)
    · refine lv_iconst (v := 0) hx hb dX11_isDigit_16 (by decide) ?_
      exact he_rz hQ hx hb hr hlk hP hD hS dX11_isDigit_17 (Nat.le_of_ble_eq_true rfl) (Nat.le_of_ble_eq_true rfl) rfl (()) (rfl) (by simp [dgI, c_1, c_2])
    · refine lv_iconst (v := 1) hx hb dX11_isDigit_12 (by decide) ?_
      refine lv_goto (tgt := 17) hx hb dX11_isDigit_13 (by decide) ?_
      exact he_rz hQ hx hb hr hlk hP hD hS dX11_isDigit_17 (Nat.le_of_ble_eq_true rfl) (Nat.le_of_ble_eq_true rfl) rfl (()) (rfl) (by simp [dgI, c_1, c_2])
set_option maxHeartbeats 4000000 in
set_option maxRecDepth 100000 in
theorem h_X11_number (l : Launch) (g : he_G) (m0 : Nat) (fd : Nat) (rfm : Nat) (rt_ : Nat) (to_ : Nat) (rw_ : Nat) (wa : Nat) (rk : Nat) (rb : Nat) (cn : Nat) (br : Nat) (sm : Nat) (as_ : Nat) (go : Nat) (sh_ : Nat) (ki : Nat) (tg : Nat) (of_ : Nat) (kp : Nat) (rs : Nat) (ta : Int32) (pl : Int32) (cs : Int32) (ct : Int32) (ir : Int32) (oa : Int32) (ob : Int32) (th : Int32) (ig : Int32) (sp_ : Int32) (sf : Int32) (tw : Int32) (n : Nat) (k : Nat) (fa : Int32) (fw : Int32) (fb : Nat → Int32) (lo : Int32) (hi : Int32) (hn : n ≤ 500) (hk : k ≤ n) : he_I l yX11_number wsX11_number 2 41 0 0 g [.ref m0, .int lo, .int hi] [(oX11 m0 tw ta (nI n) pl (nI k) fa fw cs fd rfm rt_ to_ rw_ wa ct rk rb cn br sm as_ go sh_ ir oa ob th ig sp_ ki tg of_ kp sf rs), (aI g fd 500 fb)] (fun (r : Int32) (u : Nat × Int32 × Int32) => k ≤ u.1 ∧ u.1 ≤ n ∧ ((¬ u.2.1 = 0 ∧ r = 0) ∨ (u.2.1 = 0 ∧ fa = 0 ∧ ¬ he_within r lo hi = 0 ∧ k < u.1))) (fun (u : Nat × Int32 × Int32) => [(oX11 m0 tw ta (nI n) pl (nI u.1) u.2.1 u.2.2 cs fd rfm rt_ to_ rw_ wa ct rk rb cn br sm as_ go sh_ ir oa ob th ig sp_ ki tg of_ kp sf rs), (aI g fd 500 fb)]) := by
  refine he_begin (l := l) (g := g) (y := yX11_number) (wl := wsX11_number) (fr := 2) (lo := 41) (mc := 0) (ms := 0) (av := [.ref m0, .int lo, .int hi]) (ws := [(oX11 m0 tw ta (nI n) pl (nI k) fa fw cs fd rfm rt_ to_ rw_ wa ct rk rb cn br sm as_ go sh_ ir oa ob th ig sp_ ki tg of_ kp sf rs), (aI g fd 500 fb)]) (cc := cX11_number) (maxL := 5) (ret := (some .int)) (fun A => va_Qi (fun (r : Int32) (u : Nat × Int32 × Int32) => k ≤ u.1 ∧ u.1 ≤ n ∧ ((¬ u.2.1 = 0 ∧ r = 0) ∨ (u.2.1 = 0 ∧ fa = 0 ∧ ¬ he_within r lo hi = 0 ∧ k < u.1))) (fun u t => he_post g A ((fun (u : Nat × Int32 × Int32) => [(oX11 m0 tw ta (nI n) pl (nI u.1) u.2.1 u.2.2 cs fd rfm rt_ to_ rw_ wa ct rk rb cn br sm as_ go sh_ ir oa ob th ig sp_ ki tg of_ kp sf rs), (aI g fd 500 fb)]) u) t) A) (by decide) rfl (Nat.le_of_ble_eq_true rfl) ?_
  intro p e s m args below meth c A ls H locs Q hQ hB
  obtain ⟨hx, hb, hr, hml, hown, hts, hlk, hin, hP, hK, hD, hS, hA, hE, hl⟩ := hB
  have hl : lv_has ls 5 [(0, .ref m0), (1, .int lo), (2, .int hi)] := hl
  have f101 := hts (.fieldLink RX11 101 "HiredEnemyModel" "fault" "I") (iwoX11_number (k := 0) rfl)
  have inX11 : ∀ w ∈ wsX110, w ∈ wsX11_number := innX11_number_X11
  have f94 := hts (.fieldLink RX11 94 "HiredEnemyModel" "at" "I") (iwoX11_number (k := 1) rfl)
  have kc118 := hts (.constant RX11 118 100000) (iwoX11_number (k := 2) rfl)
  refine lv_aload_n hx hb dX11_number_0 rfl (lv_at hl 0 rfl) ?_
  refine va_get (v := .int fa) (T := TX11) (N := 35) hx hb hts inX11 hown hK hP 0 rfl rfl 5 (by decide) f101 (fun _ h9 => h9) rfl dX11_number_1 ?_
  refine lv_if_eq (tgt := 9) hx hb dX11_number_4 (by decide) (fun c_1 => ?_) (fun c_1 => ?_)
  · subst c_1
    refine lv_aload_n hx hb dX11_number_9 rfl (lv_at hl 0 rfl) ?_
    refine he_cv (wc := [(oX11 m0 tw ta (nI n) pl (nI k) 0 fw cs fd rfm rt_ to_ rw_ wa ct rk rb cn br sm as_ go sh_ ir oa ob th ig sp_ ki tg of_ kp sf rs), (aI g fd 500 fb)]) (wr := []) (va_runV (As := []) (rest := []) ⟨hx, hb, hml, hown, hts⟩ (h_X11_blanks l g m0 fd rfm rt_ to_ rw_ wa rk rb cn br sm as_ go sh_ ki tg of_ kp rs ta pl cs ct ir oa ob th ig sp_ sf tw n k 0 fw fb (by first | assumption | decide | omega) (by first | assumption | decide | omega) H.size) (cwV 0 hts gX11_number_X11_blanks rfl rfl rfl (by decide +kernel) ⟨Nat.le_of_ble_eq_true rfl, Nat.le_of_ble_eq_true rfl⟩) (he_preV (wc := [(oX11 m0 tw ta (nI n) pl (nI k) 0 fw cs fd rfm rt_ to_ rw_ wa ct rk rb cn br sm as_ go sh_ ir oa ob th ig sp_ ki tg of_ kp sf rs), (aI g fd 500 fb)]) hK hP hD hS hA hE [0, 1] rfl rfl 0 rfl rfl) rfl rfl hl.1 rfl (lv_room (Nat.le_of_ble_eq_true rfl)) dX11_number_10 ⟨(Nat.le_of_ble_eq_true rfl), (Nat.le_of_ble_eq_true rfl)⟩) hP hD hS hA [0, 1] [] rfl rfl rfl (by decide) (fun u_3 H locs h_4 hP hD hS => ?_)
    obtain ⟨k2_5, rfl⟩ : ∃ z, z = u_3 := ⟨_, rfl⟩
    try dsimp only at h_4
    obtain ⟨hf_6, hf_7⟩ := h_4
    have hP : va_P g.1 vwCl [(oX11 m0 tw ta (nI n) pl (nI k2_5) 0 fw cs fd rfm rt_ to_ rw_ wa ct rk rb cn br sm as_ go sh_ ir oa ob th ig sp_ ki tg of_ kp sf rs), (aI g fd 500 fb)] H := hP
    have hD : va_D A [(oX11 m0 tw ta (nI n) pl (nI k2_5) 0 fw cs fd rfm rt_ to_ rw_ wa ct rk rb cn br sm as_ go sh_ ir oa ob th ig sp_ ki tg of_ kp sf rs), (aI g fd 500 fb)] := hD
    refine lv_aload_n hx hb dX11_number_13 rfl (lv_at hl 0 rfl) ?_
    refine va_get (v := .int (nI k2_5)) (T := TX11) (N := 35) hx hb hts inX11 hown hK hP 0 rfl rfl 4 (by decide) f94 (fun _ h9 => h9) rfl dX11_number_14 ?_
    refine lv_istore_n (lv' := [(3, .int (nI k2_5)), (0, .ref m0), (1, .int lo), (2, .int hi)]) hx hb dX11_number_17 rfl hl (by decide) rfl (fun ls hl => ?_)
    refine lv_iconst (v := 0) hx hb dX11_number_18 (by decide) ?_
    refine lv_istore (lv' := [(4, .int 0), (3, .int (nI k2_5)), (0, .ref m0), (1, .int lo), (2, .int hi)]) hx hb dX11_number_19 hl (by decide) rfl (fun ls hl => ?_)
    refine lv_aload_n hx hb dX11_number_21 rfl (lv_at hl 2 rfl) ?_
    refine lv_aload_n hx hb dX11_number_22 rfl (lv_at hl 2 rfl) ?_
    refine va_get (v := .int (nI k2_5)) (T := TX11) (N := 35) hx hb hts inX11 hown hK hP 0 rfl rfl 4 (by decide) f94 (fun _ h9 => h9) rfl dX11_number_23 ?_
    refine he_ci (wc := [(oX11 m0 tw ta (nI n) pl (nI k2_5) 0 fw cs fd rfm rt_ to_ rw_ wa ct rk rb cn br sm as_ go sh_ ir oa ob th ig sp_ ki tg of_ kp sf rs), (aI g fd 500 fb)]) (wr := []) (va_runV (As := [.int (nI k2_5)]) (rest := []) ⟨hx, hb, hml, hown, hts⟩ (h_X11_byteAt l g m0 fd rfm rt_ to_ rw_ wa rk rb cn br sm as_ go sh_ ki tg of_ kp rs ta pl cs ct ir oa ob th ig sp_ sf tw n k2_5 0 fw fb k2_5 (by first | assumption | decide | omega) (by first | assumption | decide | omega) H.size) (cwV 1 hts gX11_number_X11_byteAt rfl rfl rfl (by decide +kernel) ⟨Nat.le_of_ble_eq_true rfl, Nat.le_of_ble_eq_true rfl⟩) (he_preV (wc := [(oX11 m0 tw ta (nI n) pl (nI k2_5) 0 fw cs fd rfm rt_ to_ rw_ wa ct rk rb cn br sm as_ go sh_ ir oa ob th ig sp_ ki tg of_ kp sf rs), (aI g fd 500 fb)]) hK hP hD hS hA hE [0, 1] rfl rfl 0 rfl rfl) rfl rfl hl.1 rfl (lv_room (Nat.le_of_ble_eq_true rfl)) dX11_number_26 ⟨(Nat.le_of_ble_eq_true rfl), (Nat.le_of_ble_eq_true rfl)⟩) hP hD hS hA [0, 1] [] rfl rfl rfl (by decide) (fun r_8 u_9 H locs h_10 hP hD hS => ?_)
    subst h_10
    have hP : va_P g.1 vwCl [(oX11 m0 tw ta (nI n) pl (nI k2_5) 0 fw cs fd rfm rt_ to_ rw_ wa ct rk rb cn br sm as_ go sh_ ir oa ob th ig sp_ ki tg of_ kp sf rs), (aI g fd 500 fb)] H := hP
    have hD : va_D A [(oX11 m0 tw ta (nI n) pl (nI k2_5) 0 fw cs fd rfm rt_ to_ rw_ wa ct rk rb cn br sm as_ go sh_ ir oa ob th ig sp_ ki tg of_ kp sf rs), (aI g fd 500 fb)] := hD
    refine he_ci (wc := []) (wr := [(oX11 m0 tw ta (nI n) pl (nI k2_5) 0 fw cs fd rfm rt_ to_ rw_ wa ct rk rb cn br sm as_ go sh_ ir oa ob th ig sp_ ki tg of_ kp sf rs), (aI g fd 500 fb)]) (va_runS (As := [.int (bAt fb n k2_5)]) (rest := []) ⟨hx, hb, hml, hown, hts⟩ (h_X11_isDigit l g (bAt fb n k2_5) H.size) (va_cwS 1 hts gX11_number_X11_isDigit rfl rfl rfl (by decide +kernel) ⟨Nat.le_of_ble_eq_true rfl, Nat.le_of_ble_eq_true rfl⟩) (he_preS (wc := []) hK hP hD hS hA hE [] rfl rfl) rfl rfl hl.1 rfl (lv_room (Nat.le_of_ble_eq_true rfl)) dX11_number_29 ⟨(Nat.le_of_ble_eq_true rfl), (Nat.le_of_ble_eq_true rfl)⟩) hP hD hS hA [] [0, 1] rfl rfl rfl (by decide) (fun r_11 u_12 H locs h_13 hP hD hS => ?_)
    subst h_13
    have hP : va_P g.1 vwCl [(oX11 m0 tw ta (nI n) pl (nI k2_5) 0 fw cs fd rfm rt_ to_ rw_ wa ct rk rb cn br sm as_ go sh_ ir oa ob th ig sp_ ki tg of_ kp sf rs), (aI g fd 500 fb)] H := hP
    have hD : va_D A [(oX11 m0 tw ta (nI n) pl (nI k2_5) 0 fw cs fd rfm rt_ to_ rw_ wa ct rk rb cn br sm as_ go sh_ ir oa ob th ig sp_ ki tg of_ kp sf rs), (aI g fd 500 fb)] := hD
    refine lv_if_ne (tgt := 44) hx hb dX11_number_32 (by decide) (fun c_14 => ?_) (fun c_14 => ?_)
    · have loop44 : ∀ (n9 : Nat) (ee : Nat) (vv : Int32), n - ee < n9 → (k2_5 ≤ ee) → (ee ≤ n) → (¬ dgI (bAt fb n k2_5) = 0 ∨ ¬ 0 = 0) → ∀ (H : Heap) (locs : List Loc) (ls : Array Slot), va_P g.1 vwCl [(oX11 m0 tw ta (nI n) pl (nI ee) 0 fw cs fd rfm rt_ to_ rw_ wa ct rk rb cn br sm as_ go sh_ ir oa ob th ig sp_ ki tg of_ kp sf rs), (aI g fd 500 fb)] H → va_D A [(oX11 m0 tw ta (nI n) pl (nI ee) 0 fw cs fd rfm rt_ to_ rw_ wa ct rk rb cn br sm as_ go sh_ ir oa ob th ig sp_ ki tg of_ kp sf rs), (aI g fd 500 fb)] → va_S A s.heap H locs → lv_has ls 5 [(0, .ref m0), (1, .int lo), (2, .int hi), (3, .int (nI k2_5)), (4, .int vv)] → W p l e (he_room 2 41 0 0) s m args below meth c H locs 0 0 Q (F0 m 44 ls []) := by
        intro n9
        induction n9 with
        | zero => intro ee vv hm9; exact absurd hm9 (Nat.not_lt_zero _)
        | succ n9 ih44 =>
          intro ee vv hm9 he1 he2 hd H locs ls hP hD hS hl
          refine lv_aload_n hx hb dX11_number_44 rfl (lv_at hl 0 rfl) ?_
          refine lv_aload_n hx hb dX11_number_45 rfl (lv_at hl 0 rfl) ?_
          refine va_get (v := .int (nI ee)) (T := TX11) (N := 35) hx hb hts inX11 hown hK hP 0 rfl rfl 4 (by decide) f94 (fun _ h9 => h9) rfl dX11_number_46 ?_
          refine he_ci (wc := [(oX11 m0 tw ta (nI n) pl (nI ee) 0 fw cs fd rfm rt_ to_ rw_ wa ct rk rb cn br sm as_ go sh_ ir oa ob th ig sp_ ki tg of_ kp sf rs), (aI g fd 500 fb)]) (wr := []) (va_runV (As := [.int (nI ee)]) (rest := []) ⟨hx, hb, hml, hown, hts⟩ (h_X11_byteAt l g m0 fd rfm rt_ to_ rw_ wa rk rb cn br sm as_ go sh_ ki tg of_ kp rs ta pl cs ct ir oa ob th ig sp_ sf tw n ee 0 fw fb ee (by first | assumption | decide | omega) (by first | assumption | decide | omega) H.size) (cwV 1 hts gX11_number_X11_byteAt rfl rfl rfl (by decide +kernel) ⟨Nat.le_of_ble_eq_true rfl, Nat.le_of_ble_eq_true rfl⟩) (he_preV (wc := [(oX11 m0 tw ta (nI n) pl (nI ee) 0 fw cs fd rfm rt_ to_ rw_ wa ct rk rb cn br sm as_ go sh_ ir oa ob th ig sp_ ki tg of_ kp sf rs), (aI g fd 500 fb)]) hK hP hD hS hA hE [0, 1] rfl rfl 0 rfl rfl) rfl rfl hl.1 rfl (lv_room (Nat.le_of_ble_eq_true rfl)) dX11_number_49 ⟨(Nat.le_of_ble_eq_true rfl), (Nat.le_of_ble_eq_true rfl)⟩) hP hD hS hA [0, 1] [] rfl rfl rfl (by decide) (fun r_15 u_16 H locs h_17 hP hD hS => ?_)
          subst h_17
          have hP : va_P g.1 vwCl [(oX11 m0 tw ta (nI n) pl (nI ee) 0 fw cs fd rfm rt_ to_ rw_ wa ct rk rb cn br sm as_ go sh_ ir oa ob th ig sp_ ki tg of_ kp sf rs), (aI g fd 500 fb)] H := hP
          have hD : va_D A [(oX11 m0 tw ta (nI n) pl (nI ee) 0 fw cs fd rfm rt_ to_ rw_ wa ct rk rb cn br sm as_ go sh_ ir oa ob th ig sp_ ki tg of_ kp sf rs), (aI g fd 500 fb)] := hD
          refine he_ci (wc := []) (wr := [(oX11 m0 tw ta (nI n) pl (nI ee) 0 fw cs fd rfm rt_ to_ rw_ wa ct rk rb cn br sm as_ go sh_ ir oa ob th ig sp_ ki tg of_ kp sf rs), (aI g fd 500 fb)]) (va_runS (As := [.int (bAt fb n ee)]) (rest := []) ⟨hx, hb, hml, hown, hts⟩ (h_X11_isDigit l g (bAt fb n ee) H.size) (va_cwS 1 hts gX11_number_X11_isDigit rfl rfl rfl (by decide +kernel) ⟨Nat.le_of_ble_eq_true rfl, Nat.le_of_ble_eq_true rfl⟩) (he_preS (wc := []) hK hP hD hS hA hE [] rfl rfl) rfl rfl hl.1 rfl (lv_room (Nat.le_of_ble_eq_true rfl)) dX11_number_52 ⟨(Nat.le_of_ble_eq_true rfl), (Nat.le_of_ble_eq_true rfl)⟩) hP hD hS hA [] [0, 1] rfl rfl rfl (by decide) (fun r_18 u_19 H locs h_20 hP hD hS => ?_)
          subst h_20
          have hP : va_P g.1 vwCl [(oX11 m0 tw ta (nI n) pl (nI ee) 0 fw cs fd rfm rt_ to_ rw_ wa ct rk rb cn br sm as_ go sh_ ir oa ob th ig sp_ ki tg of_ kp sf rs), (aI g fd 500 fb)] H := hP
          have hD : va_D A [(oX11 m0 tw ta (nI n) pl (nI ee) 0 fw cs fd rfm rt_ to_ rw_ wa ct rk rb cn br sm as_ go sh_ ir oa ob th ig sp_ ki tg of_ kp sf rs), (aI g fd 500 fb)] := hD
          refine lv_if_eq (tgt := 106) hx hb dX11_number_55 (by decide) (fun c_21 => ?_) (fun c_21 => ?_)
          · refine lv_iload hx hb dX11_number_106 (lv_at hl 4 rfl) ?_
            refine lv_iload_n hx hb dX11_number_108 rfl (lv_at hl 1 rfl) ?_
            refine lv_iload_n hx hb dX11_number_109 rfl (lv_at hl 2 rfl) ?_
            refine he_ci (wc := []) (wr := [(oX11 m0 tw ta (nI n) pl (nI ee) 0 fw cs fd rfm rt_ to_ rw_ wa ct rk rb cn br sm as_ go sh_ ir oa ob th ig sp_ ki tg of_ kp sf rs), (aI g fd 500 fb)]) (va_runS (As := [.int vv, .int lo, .int hi]) (rest := []) ⟨hx, hb, hml, hown, hts⟩ (c_X11_in l g vv lo hi H.size) (va_cwS 3 hts gX11_number_X11_in rfl rfl rfl (by decide +kernel) ⟨Nat.le_of_ble_eq_true rfl, Nat.le_of_ble_eq_true rfl⟩) (he_preS (wc := []) hK hP hD hS hA hE [] rfl rfl) rfl rfl hl.1 rfl (lv_room (Nat.le_of_ble_eq_true rfl)) dX11_number_110 ⟨(Nat.le_of_ble_eq_true rfl), (Nat.le_of_ble_eq_true rfl)⟩) hP hD hS hA [] [0, 1] rfl rfl rfl (by decide) (fun r_22 u_23 H locs h_24 hP hD hS => ?_)
            subst h_24
            have hP : va_P g.1 vwCl [(oX11 m0 tw ta (nI n) pl (nI ee) 0 fw cs fd rfm rt_ to_ rw_ wa ct rk rb cn br sm as_ go sh_ ir oa ob th ig sp_ ki tg of_ kp sf rs), (aI g fd 500 fb)] H := hP
            have hD : va_D A [(oX11 m0 tw ta (nI n) pl (nI ee) 0 fw cs fd rfm rt_ to_ rw_ wa ct rk rb cn br sm as_ go sh_ ir oa ob th ig sp_ ki tg of_ kp sf rs), (aI g fd 500 fb)] := hD
            refine lv_if_ne (tgt := 122) hx hb dX11_number_113 (by decide) (fun c_25 => ?_) (fun c_25 => ?_)
            · refine lv_aload_n hx hb dX11_number_122 rfl (lv_at hl 0 rfl) ?_
              refine va_get (v := .int 0) (T := TX11) (N := 35) hx hb hts inX11 hown hK hP 0 rfl rfl 5 (by decide) f101 (fun _ h9 => h9) rfl dX11_number_123 ?_
              refine lv_if_ne (tgt := 134) hx hb dX11_number_126 (by decide) (fun c_26 => ?_) (fun c_26 => ?_)
              · exact absurd (by decide) c_26
              · refine lv_iload hx hb dX11_number_129 (lv_at hl 4 rfl) ?_
                refine lv_goto (tgt := 135) hx hb dX11_number_131 (by decide) ?_
                exact he_ri hQ hx hb hr hlk hP hD hS dX11_number_135 (Nat.le_of_ble_eq_true rfl) (Nat.le_of_ble_eq_true rfl) ((ee, 0, fw)) (rfl) (by (try dsimp only); exact ⟨by (try dsimp only); omega, by (try dsimp only); omega, Or.inr ⟨rfl, rfl, c_25, by have h9 : ee ≠ k2_5 := fun h9 => (hd.resolve_right (fun h8 => h8 rfl)) (h9 ▸ c_21); omega⟩⟩)
            · refine lv_aload_n hx hb dX11_number_116 rfl (lv_at hl 0 rfl) ?_
              refine lv_iconst (v := 2) hx hb dX11_number_117 (by decide) ?_
              refine lv_iload_n hx hb dX11_number_118 rfl (lv_at hl 3 rfl) ?_
              refine he_cv (wc := [(oX11 m0 tw ta (nI n) pl (nI ee) 0 fw cs fd rfm rt_ to_ rw_ wa ct rk rb cn br sm as_ go sh_ ir oa ob th ig sp_ ki tg of_ kp sf rs), (aI g fd 500 fb)]) (wr := []) (va_runV (As := [.int 2, .int (nI k2_5)]) (rest := []) ⟨hx, hb, hml, hown, hts⟩ (h_X11_wrong l g m0 fd rfm rt_ to_ rw_ wa rk rb cn br sm as_ go sh_ ki tg of_ kp rs ta pl cs ct ir oa ob th ig sp_ sf tw n ee 0 fw fb 2 (nI k2_5) H.size) (cwV 2 hts gX11_number_X11_wrong rfl rfl rfl (by decide +kernel) ⟨Nat.le_of_ble_eq_true rfl, Nat.le_of_ble_eq_true rfl⟩) (he_preV (wc := [(oX11 m0 tw ta (nI n) pl (nI ee) 0 fw cs fd rfm rt_ to_ rw_ wa ct rk rb cn br sm as_ go sh_ ir oa ob th ig sp_ ki tg of_ kp sf rs), (aI g fd 500 fb)]) hK hP hD hS hA hE [0, 1] rfl rfl 0 rfl rfl) rfl rfl hl.1 rfl (lv_room (Nat.le_of_ble_eq_true rfl)) dX11_number_119 ⟨(Nat.le_of_ble_eq_true rfl), (Nat.le_of_ble_eq_true rfl)⟩) hP hD hS hA [0, 1] [] rfl rfl rfl (by decide) (fun u_28 H locs h_29 hP hD hS => ?_)
              have hP : va_P g.1 vwCl [(oX11 m0 tw ta (nI n) pl (nI ee) (wrF 0 2) (wrA 0 fw (nI k2_5)) cs fd rfm rt_ to_ rw_ wa ct rk rb cn br sm as_ go sh_ ir oa ob th ig sp_ ki tg of_ kp sf rs), (aI g fd 500 fb)] H := hP
              have hD : va_D A [(oX11 m0 tw ta (nI n) pl (nI ee) (wrF 0 2) (wrA 0 fw (nI k2_5)) cs fd rfm rt_ to_ rw_ wa ct rk rb cn br sm as_ go sh_ ir oa ob th ig sp_ ki tg of_ kp sf rs), (aI g fd 500 fb)] := hD
              refine lv_aload_n hx hb dX11_number_122 rfl (lv_at hl 0 rfl) ?_
              refine va_get (v := .int (wrF 0 2)) (T := TX11) (N := 35) hx hb hts inX11 hown hK hP 0 rfl rfl 5 (by decide) f101 (fun _ h9 => h9) rfl dX11_number_123 ?_
              refine lv_if_ne (tgt := 134) hx hb dX11_number_126 (by decide) (fun c_30 => ?_) (fun c_30 => ?_)
              · refine lv_iconst (v := 0) hx hb dX11_number_134 (by decide) ?_
                exact he_ri hQ hx hb hr hlk hP hD hS dX11_number_135 (Nat.le_of_ble_eq_true rfl) (Nat.le_of_ble_eq_true rfl) ((ee, wrF 0 2, wrA 0 fw (nI k2_5))) (rfl) (by (try dsimp only); exact ⟨by (try dsimp only); omega, by (try dsimp only); omega, Or.inl ⟨by (try dsimp only); decide, rfl⟩⟩)
              · exact absurd c_30 (by decide)
          · have hlt : ee < n := dgI_lt c_21
            refine lv_bipush (v := 10) hx hb dX11_number_58 (by decide) ?_
            refine lv_iload hx hb dX11_number_60 (lv_at hl 4 rfl) ?_
            refine lv_imul hx hb dX11_number_62 ?_
            refine lv_aload_n hx hb dX11_number_63 rfl (lv_at hl 0 rfl) ?_
            refine lv_aload_n hx hb dX11_number_64 rfl (lv_at hl 0 rfl) ?_
            refine va_get (v := .int (nI ee)) (T := TX11) (N := 35) hx hb hts inX11 hown hK hP 0 rfl rfl 4 (by decide) f94 (fun _ h9 => h9) rfl dX11_number_65 ?_
            refine he_ci (wc := [(oX11 m0 tw ta (nI n) pl (nI ee) 0 fw cs fd rfm rt_ to_ rw_ wa ct rk rb cn br sm as_ go sh_ ir oa ob th ig sp_ ki tg of_ kp sf rs), (aI g fd 500 fb)]) (wr := []) (va_runV (As := [.int (nI ee)]) (rest := [.int (10 * vv)]) ⟨hx, hb, hml, hown, hts⟩ (h_X11_byteAt l g m0 fd rfm rt_ to_ rw_ wa rk rb cn br sm as_ go sh_ ki tg of_ kp rs ta pl cs ct ir oa ob th ig sp_ sf tw n ee 0 fw fb ee (by first | assumption | decide | omega) (by first | assumption | decide | omega) H.size) (cwV 1 hts gX11_number_X11_byteAt rfl rfl rfl (by decide +kernel) ⟨Nat.le_of_ble_eq_true rfl, Nat.le_of_ble_eq_true rfl⟩) (he_preV (wc := [(oX11 m0 tw ta (nI n) pl (nI ee) 0 fw cs fd rfm rt_ to_ rw_ wa ct rk rb cn br sm as_ go sh_ ir oa ob th ig sp_ ki tg of_ kp sf rs), (aI g fd 500 fb)]) hK hP hD hS hA hE [0, 1] rfl rfl 0 rfl rfl) rfl rfl hl.1 rfl (lv_room (Nat.le_of_ble_eq_true rfl)) dX11_number_68 ⟨(Nat.le_of_ble_eq_true rfl), (Nat.le_of_ble_eq_true rfl)⟩) hP hD hS hA [0, 1] [] rfl rfl rfl (by decide) (fun r_31 u_32 H locs h_33 hP hD hS => ?_)
            subst h_33
            have hP : va_P g.1 vwCl [(oX11 m0 tw ta (nI n) pl (nI ee) 0 fw cs fd rfm rt_ to_ rw_ wa ct rk rb cn br sm as_ go sh_ ir oa ob th ig sp_ ki tg of_ kp sf rs), (aI g fd 500 fb)] H := hP
            have hD : va_D A [(oX11 m0 tw ta (nI n) pl (nI ee) 0 fw cs fd rfm rt_ to_ rw_ wa ct rk rb cn br sm as_ go sh_ ir oa ob th ig sp_ ki tg of_ kp sf rs), (aI g fd 500 fb)] := hD
            refine lv_iadd hx hb dX11_number_71 ?_
            refine lv_bipush (v := 48) hx hb dX11_number_72 (by decide) ?_
            refine lv_isub hx hb dX11_number_74 ?_
            refine lv_istore (lv' := [(4, .int (((10 * vv) + (bAt fb n ee)) - 48)), (0, .ref m0), (1, .int lo), (2, .int hi), (3, .int (nI k2_5))]) hx hb dX11_number_75 hl (by decide) rfl (fun ls hl => ?_)
            refine lv_iload hx hb dX11_number_77 (lv_at hl 0 rfl) ?_
            refine lv_ldc (v := 100000) hx hb hown kc118 dX11_number_79 ?_
            refine lv_icmp_le (tgt := 89) hx hb dX11_number_81 (by decide) (fun c_34 => ?_) (fun c_34 => ?_)
            · refine lv_iload hx hb dX11_number_89 (lv_at hl 0 rfl) ?_
              refine lv_istore (lv' := [(4, .int (((10 * vv) + (bAt fb n ee)) - 48)), (0, .ref m0), (1, .int lo), (2, .int hi), (3, .int (nI k2_5))]) hx hb dX11_number_91 hl (by decide) rfl (fun ls hl => ?_)
              refine lv_aload_n hx hb dX11_number_93 rfl (lv_at hl 1 rfl) ?_
              refine lv_dup hx hb dX11_number_94 rfl ?_
              refine va_get (v := .int (nI ee)) (T := TX11) (N := 35) hx hb hts inX11 hown hK hP 0 rfl rfl 4 (by decide) f94 (fun _ h9 => h9) rfl dX11_number_95 ?_
              refine lv_iconst (v := 1) hx hb dX11_number_98 (by decide) ?_
              refine lv_iadd hx hb dX11_number_99 ?_
              refine he_top (nI (ee + 1)) (nI_add ee 1) ?_
              refine va_put (v := .int (nI (ee + 1))) (ty := .int) (T := TX11) (N := 35) hx hb hts inX11 tyX11 tyX11_ok nmX11 hown hK hP hD hS 0 rfl rfl 4 (by decide) f94 (fun _ h9 => h9) rfl (by decide +kernel) rfl rfl (Nat.le_of_ble_eq_true rfl) dX11_number_100 (fun H locs hP hD hS => ?_)
              have hP : va_P g.1 vwCl [(oX11 m0 tw ta (nI n) pl (nI (ee + 1)) 0 fw cs fd rfm rt_ to_ rw_ wa ct rk rb cn br sm as_ go sh_ ir oa ob th ig sp_ ki tg of_ kp sf rs), (aI g fd 500 fb)] H := hP
              have hD : va_D A [(oX11 m0 tw ta (nI n) pl (nI (ee + 1)) 0 fw cs fd rfm rt_ to_ rw_ wa ct rk rb cn br sm as_ go sh_ ir oa ob th ig sp_ ki tg of_ kp sf rs), (aI g fd 500 fb)] := hD
              refine lv_goto (tgt := 44) hx hb dX11_number_103 (by decide) ?_
              exact ih44 (ee + 1) (((10 * vv) + (bAt fb n ee)) - 48) (by omega) (by omega) (by omega) hd _ _ _ hP hD hS (lv_sub hl [1, 2, 3, 4, 0] rfl)
            · refine lv_ldc (v := 100000) hx hb hown kc118 dX11_number_84 ?_
              refine lv_goto (tgt := 91) hx hb dX11_number_86 (by decide) ?_
              refine lv_istore (lv' := [(4, .int 100000), (0, .ref m0), (1, .int lo), (2, .int hi), (3, .int (nI k2_5))]) hx hb dX11_number_91 hl (by decide) rfl (fun ls hl => ?_)
              refine lv_aload_n hx hb dX11_number_93 rfl (lv_at hl 1 rfl) ?_
              refine lv_dup hx hb dX11_number_94 rfl ?_
              refine va_get (v := .int (nI ee)) (T := TX11) (N := 35) hx hb hts inX11 hown hK hP 0 rfl rfl 4 (by decide) f94 (fun _ h9 => h9) rfl dX11_number_95 ?_
              refine lv_iconst (v := 1) hx hb dX11_number_98 (by decide) ?_
              refine lv_iadd hx hb dX11_number_99 ?_
              refine he_top (nI (ee + 1)) (nI_add ee 1) ?_
              refine va_put (v := .int (nI (ee + 1))) (ty := .int) (T := TX11) (N := 35) hx hb hts inX11 tyX11 tyX11_ok nmX11 hown hK hP hD hS 0 rfl rfl 4 (by decide) f94 (fun _ h9 => h9) rfl (by decide +kernel) rfl rfl (Nat.le_of_ble_eq_true rfl) dX11_number_100 (fun H locs hP hD hS => ?_)
              have hP : va_P g.1 vwCl [(oX11 m0 tw ta (nI n) pl (nI (ee + 1)) 0 fw cs fd rfm rt_ to_ rw_ wa ct rk rb cn br sm as_ go sh_ ir oa ob th ig sp_ ki tg of_ kp sf rs), (aI g fd 500 fb)] H := hP
              have hD : va_D A [(oX11 m0 tw ta (nI n) pl (nI (ee + 1)) 0 fw cs fd rfm rt_ to_ rw_ wa ct rk rb cn br sm as_ go sh_ ir oa ob th ig sp_ ki tg of_ kp sf rs), (aI g fd 500 fb)] := hD
              refine lv_goto (tgt := 44) hx hb dX11_number_103 (by decide) ?_
              exact ih44 (ee + 1) 100000 (by omega) (by omega) (by omega) hd _ _ _ hP hD hS (lv_sub hl [1, 2, 3, 4, 0] rfl)
      exact loop44 ((n - k2_5) + 1) k2_5 0 (Nat.lt_succ_self _) (Nat.le_refl _) (by omega) (Or.inl c_14) _ _ _ hP hD hS (lv_sub hl [2, 3, 4, 1, 0] rfl)
    · refine lv_aload_n hx hb dX11_number_35 rfl (lv_at hl 2 rfl) ?_
      refine lv_iconst (v := 1) hx hb dX11_number_36 (by decide) ?_
      refine lv_aload_n hx hb dX11_number_37 rfl (lv_at hl 2 rfl) ?_
      refine va_get (v := .int (nI k2_5)) (T := TX11) (N := 35) hx hb hts inX11 hown hK hP 0 rfl rfl 4 (by decide) f94 (fun _ h9 => h9) rfl dX11_number_38 ?_
      refine he_cv (wc := [(oX11 m0 tw ta (nI n) pl (nI k2_5) 0 fw cs fd rfm rt_ to_ rw_ wa ct rk rb cn br sm as_ go sh_ ir oa ob th ig sp_ ki tg of_ kp sf rs), (aI g fd 500 fb)]) (wr := []) (va_runV (As := [.int 1, .int (nI k2_5)]) (rest := []) ⟨hx, hb, hml, hown, hts⟩ (h_X11_wrong l g m0 fd rfm rt_ to_ rw_ wa rk rb cn br sm as_ go sh_ ki tg of_ kp rs ta pl cs ct ir oa ob th ig sp_ sf tw n k2_5 0 fw fb 1 (nI k2_5) H.size) (cwV 2 hts gX11_number_X11_wrong rfl rfl rfl (by decide +kernel) ⟨Nat.le_of_ble_eq_true rfl, Nat.le_of_ble_eq_true rfl⟩) (he_preV (wc := [(oX11 m0 tw ta (nI n) pl (nI k2_5) 0 fw cs fd rfm rt_ to_ rw_ wa ct rk rb cn br sm as_ go sh_ ir oa ob th ig sp_ ki tg of_ kp sf rs), (aI g fd 500 fb)]) hK hP hD hS hA hE [0, 1] rfl rfl 0 rfl rfl) rfl rfl hl.1 rfl (lv_room (Nat.le_of_ble_eq_true rfl)) dX11_number_41 ⟨(Nat.le_of_ble_eq_true rfl), (Nat.le_of_ble_eq_true rfl)⟩) hP hD hS hA [0, 1] [] rfl rfl rfl (by decide) (fun u_36 H locs h_37 hP hD hS => ?_)
      have hP : va_P g.1 vwCl [(oX11 m0 tw ta (nI n) pl (nI k2_5) (wrF 0 1) (wrA 0 fw (nI k2_5)) cs fd rfm rt_ to_ rw_ wa ct rk rb cn br sm as_ go sh_ ir oa ob th ig sp_ ki tg of_ kp sf rs), (aI g fd 500 fb)] H := hP
      have hD : va_D A [(oX11 m0 tw ta (nI n) pl (nI k2_5) (wrF 0 1) (wrA 0 fw (nI k2_5)) cs fd rfm rt_ to_ rw_ wa ct rk rb cn br sm as_ go sh_ ir oa ob th ig sp_ ki tg of_ kp sf rs), (aI g fd 500 fb)] := hD
      have loop44 : ∀ (n9 : Nat) (ee : Nat) (vv : Int32), n - ee < n9 → (k2_5 ≤ ee) → (ee ≤ n) → (¬ dgI (bAt fb n k2_5) = 0 ∨ ¬ (wrF 0 1) = 0) → ∀ (H : Heap) (locs : List Loc) (ls : Array Slot), va_P g.1 vwCl [(oX11 m0 tw ta (nI n) pl (nI ee) (wrF 0 1) (wrA 0 fw (nI k2_5)) cs fd rfm rt_ to_ rw_ wa ct rk rb cn br sm as_ go sh_ ir oa ob th ig sp_ ki tg of_ kp sf rs), (aI g fd 500 fb)] H → va_D A [(oX11 m0 tw ta (nI n) pl (nI ee) (wrF 0 1) (wrA 0 fw (nI k2_5)) cs fd rfm rt_ to_ rw_ wa ct rk rb cn br sm as_ go sh_ ir oa ob th ig sp_ ki tg of_ kp sf rs), (aI g fd 500 fb)] → va_S A s.heap H locs → lv_has ls 5 [(0, .ref m0), (1, .int lo), (2, .int hi), (3, .int (nI k2_5)), (4, .int vv)] → W p l e (he_room 2 41 0 0) s m args below meth c H locs 0 0 Q (F0 m 44 ls []) := by
        intro n9
        induction n9 with
        | zero => intro ee vv hm9; exact absurd hm9 (Nat.not_lt_zero _)
        | succ n9 ih44 =>
          intro ee vv hm9 he1 he2 hd H locs ls hP hD hS hl
          refine lv_aload_n hx hb dX11_number_44 rfl (lv_at hl 0 rfl) ?_
          refine lv_aload_n hx hb dX11_number_45 rfl (lv_at hl 0 rfl) ?_
          refine va_get (v := .int (nI ee)) (T := TX11) (N := 35) hx hb hts inX11 hown hK hP 0 rfl rfl 4 (by decide) f94 (fun _ h9 => h9) rfl dX11_number_46 ?_
          refine he_ci (wc := [(oX11 m0 tw ta (nI n) pl (nI ee) (wrF 0 1) (wrA 0 fw (nI k2_5)) cs fd rfm rt_ to_ rw_ wa ct rk rb cn br sm as_ go sh_ ir oa ob th ig sp_ ki tg of_ kp sf rs), (aI g fd 500 fb)]) (wr := []) (va_runV (As := [.int (nI ee)]) (rest := []) ⟨hx, hb, hml, hown, hts⟩ (h_X11_byteAt l g m0 fd rfm rt_ to_ rw_ wa rk rb cn br sm as_ go sh_ ki tg of_ kp rs ta pl cs ct ir oa ob th ig sp_ sf tw n ee (wrF 0 1) (wrA 0 fw (nI k2_5)) fb ee (by first | assumption | decide | omega) (by first | assumption | decide | omega) H.size) (cwV 1 hts gX11_number_X11_byteAt rfl rfl rfl (by decide +kernel) ⟨Nat.le_of_ble_eq_true rfl, Nat.le_of_ble_eq_true rfl⟩) (he_preV (wc := [(oX11 m0 tw ta (nI n) pl (nI ee) (wrF 0 1) (wrA 0 fw (nI k2_5)) cs fd rfm rt_ to_ rw_ wa ct rk rb cn br sm as_ go sh_ ir oa ob th ig sp_ ki tg of_ kp sf rs), (aI g fd 500 fb)]) hK hP hD hS hA hE [0, 1] rfl rfl 0 rfl rfl) rfl rfl hl.1 rfl (lv_room (Nat.le_of_ble_eq_true rfl)) dX11_number_49 ⟨(Nat.le_of_ble_eq_true rfl), (Nat.le_of_ble_eq_true rfl)⟩) hP hD hS hA [0, 1] [] rfl rfl rfl (by decide) (fun r_38 u_39 H locs h_40 hP hD hS => ?_)
          subst h_40
          have hP : va_P g.1 vwCl [(oX11 m0 tw ta (nI n) pl (nI ee) (wrF 0 1) (wrA 0 fw (nI k2_5)) cs fd rfm rt_ to_ rw_ wa ct rk rb cn br sm as_ go sh_ ir oa ob th ig sp_ ki tg of_ kp sf rs), (aI g fd 500 fb)] H := hP
          have hD : va_D A [(oX11 m0 tw ta (nI n) pl (nI ee) (wrF 0 1) (wrA 0 fw (nI k2_5)) cs fd rfm rt_ to_ rw_ wa ct rk rb cn br sm as_ go sh_ ir oa ob th ig sp_ ki tg of_ kp sf rs), (aI g fd 500 fb)] := hD
          refine he_ci (wc := []) (wr := [(oX11 m0 tw ta (nI n) pl (nI ee) (wrF 0 1) (wrA 0 fw (nI k2_5)) cs fd rfm rt_ to_ rw_ wa ct rk rb cn br sm as_ go sh_ ir oa ob th ig sp_ ki tg of_ kp sf rs), (aI g fd 500 fb)]) (va_runS (As := [.int (bAt fb n ee)]) (rest := []) ⟨hx, hb, hml, hown, hts⟩ (h_X11_isDigit l g (bAt fb n ee) H.size) (va_cwS 1 hts gX11_number_X11_isDigit rfl rfl rfl (by decide +kernel) ⟨Nat.le_of_ble_eq_true rfl, Nat.le_of_ble_eq_true rfl⟩) (he_preS (wc := []) hK hP hD hS hA hE [] rfl rfl) rfl rfl hl.1 rfl (lv_room (Nat.le_of_ble_eq_true rfl)) dX11_number_52 ⟨(Nat.le_of_ble_eq_true rfl), (Nat.le_of_ble_eq_true rfl)⟩) hP hD hS hA [] [0, 1] rfl rfl rfl (by decide) (fun r_41 u_42 H locs h_43 hP hD hS => ?_)
          subst h_43
          have hP : va_P g.1 vwCl [(oX11 m0 tw ta (nI n) pl (nI ee) (wrF 0 1) (wrA 0 fw (nI k2_5)) cs fd rfm rt_ to_ rw_ wa ct rk rb cn br sm as_ go sh_ ir oa ob th ig sp_ ki tg of_ kp sf rs), (aI g fd 500 fb)] H := hP
          have hD : va_D A [(oX11 m0 tw ta (nI n) pl (nI ee) (wrF 0 1) (wrA 0 fw (nI k2_5)) cs fd rfm rt_ to_ rw_ wa ct rk rb cn br sm as_ go sh_ ir oa ob th ig sp_ ki tg of_ kp sf rs), (aI g fd 500 fb)] := hD
          refine lv_if_eq (tgt := 106) hx hb dX11_number_55 (by decide) (fun c_44 => ?_) (fun c_44 => ?_)
          · refine lv_iload hx hb dX11_number_106 (lv_at hl 4 rfl) ?_
            refine lv_iload_n hx hb dX11_number_108 rfl (lv_at hl 1 rfl) ?_
            refine lv_iload_n hx hb dX11_number_109 rfl (lv_at hl 2 rfl) ?_
            refine he_ci (wc := []) (wr := [(oX11 m0 tw ta (nI n) pl (nI ee) (wrF 0 1) (wrA 0 fw (nI k2_5)) cs fd rfm rt_ to_ rw_ wa ct rk rb cn br sm as_ go sh_ ir oa ob th ig sp_ ki tg of_ kp sf rs), (aI g fd 500 fb)]) (va_runS (As := [.int vv, .int lo, .int hi]) (rest := []) ⟨hx, hb, hml, hown, hts⟩ (c_X11_in l g vv lo hi H.size) (va_cwS 3 hts gX11_number_X11_in rfl rfl rfl (by decide +kernel) ⟨Nat.le_of_ble_eq_true rfl, Nat.le_of_ble_eq_true rfl⟩) (he_preS (wc := []) hK hP hD hS hA hE [] rfl rfl) rfl rfl hl.1 rfl (lv_room (Nat.le_of_ble_eq_true rfl)) dX11_number_110 ⟨(Nat.le_of_ble_eq_true rfl), (Nat.le_of_ble_eq_true rfl)⟩) hP hD hS hA [] [0, 1] rfl rfl rfl (by decide) (fun r_45 u_46 H locs h_47 hP hD hS => ?_)
            subst h_47
            have hP : va_P g.1 vwCl [(oX11 m0 tw ta (nI n) pl (nI ee) (wrF 0 1) (wrA 0 fw (nI k2_5)) cs fd rfm rt_ to_ rw_ wa ct rk rb cn br sm as_ go sh_ ir oa ob th ig sp_ ki tg of_ kp sf rs), (aI g fd 500 fb)] H := hP
            have hD : va_D A [(oX11 m0 tw ta (nI n) pl (nI ee) (wrF 0 1) (wrA 0 fw (nI k2_5)) cs fd rfm rt_ to_ rw_ wa ct rk rb cn br sm as_ go sh_ ir oa ob th ig sp_ ki tg of_ kp sf rs), (aI g fd 500 fb)] := hD
            refine lv_if_ne (tgt := 122) hx hb dX11_number_113 (by decide) (fun c_48 => ?_) (fun c_48 => ?_)
            · refine lv_aload_n hx hb dX11_number_122 rfl (lv_at hl 0 rfl) ?_
              refine va_get (v := .int (wrF 0 1)) (T := TX11) (N := 35) hx hb hts inX11 hown hK hP 0 rfl rfl 5 (by decide) f101 (fun _ h9 => h9) rfl dX11_number_123 ?_
              refine lv_if_ne (tgt := 134) hx hb dX11_number_126 (by decide) (fun c_49 => ?_) (fun c_49 => ?_)
              · refine lv_iconst (v := 0) hx hb dX11_number_134 (by decide) ?_
                exact he_ri hQ hx hb hr hlk hP hD hS dX11_number_135 (Nat.le_of_ble_eq_true rfl) (Nat.le_of_ble_eq_true rfl) ((ee, wrF 0 1, wrA 0 fw (nI k2_5))) (rfl) (by (try dsimp only); exact ⟨by (try dsimp only); omega, by (try dsimp only); omega, Or.inl ⟨by (try dsimp only); decide, rfl⟩⟩)
              · exact absurd c_49 (by decide)
            · refine lv_aload_n hx hb dX11_number_116 rfl (lv_at hl 0 rfl) ?_
              refine lv_iconst (v := 2) hx hb dX11_number_117 (by decide) ?_
              refine lv_iload_n hx hb dX11_number_118 rfl (lv_at hl 3 rfl) ?_
              refine he_cv (wc := [(oX11 m0 tw ta (nI n) pl (nI ee) (wrF 0 1) (wrA 0 fw (nI k2_5)) cs fd rfm rt_ to_ rw_ wa ct rk rb cn br sm as_ go sh_ ir oa ob th ig sp_ ki tg of_ kp sf rs), (aI g fd 500 fb)]) (wr := []) (va_runV (As := [.int 2, .int (nI k2_5)]) (rest := []) ⟨hx, hb, hml, hown, hts⟩ (h_X11_wrong l g m0 fd rfm rt_ to_ rw_ wa rk rb cn br sm as_ go sh_ ki tg of_ kp rs ta pl cs ct ir oa ob th ig sp_ sf tw n ee (wrF 0 1) (wrA 0 fw (nI k2_5)) fb 2 (nI k2_5) H.size) (cwV 2 hts gX11_number_X11_wrong rfl rfl rfl (by decide +kernel) ⟨Nat.le_of_ble_eq_true rfl, Nat.le_of_ble_eq_true rfl⟩) (he_preV (wc := [(oX11 m0 tw ta (nI n) pl (nI ee) (wrF 0 1) (wrA 0 fw (nI k2_5)) cs fd rfm rt_ to_ rw_ wa ct rk rb cn br sm as_ go sh_ ir oa ob th ig sp_ ki tg of_ kp sf rs), (aI g fd 500 fb)]) hK hP hD hS hA hE [0, 1] rfl rfl 0 rfl rfl) rfl rfl hl.1 rfl (lv_room (Nat.le_of_ble_eq_true rfl)) dX11_number_119 ⟨(Nat.le_of_ble_eq_true rfl), (Nat.le_of_ble_eq_true rfl)⟩) hP hD hS hA [0, 1] [] rfl rfl rfl (by decide) (fun u_51 H locs h_52 hP hD hS => ?_)
              have hP : va_P g.1 vwCl [(oX11 m0 tw ta (nI n) pl (nI ee) (wrF (wrF 0 1) 2) (wrA (wrF 0 1) (wrA 0 fw (nI k2_5)) (nI k2_5)) cs fd rfm rt_ to_ rw_ wa ct rk rb cn br sm as_ go sh_ ir oa ob th ig sp_ ki tg of_ kp sf rs), (aI g fd 500 fb)] H := hP
              have hD : va_D A [(oX11 m0 tw ta (nI n) pl (nI ee) (wrF (wrF 0 1) 2) (wrA (wrF 0 1) (wrA 0 fw (nI k2_5)) (nI k2_5)) cs fd rfm rt_ to_ rw_ wa ct rk rb cn br sm as_ go sh_ ir oa ob th ig sp_ ki tg of_ kp sf rs), (aI g fd 500 fb)] := hD
              refine lv_aload_n hx hb dX11_number_122 rfl (lv_at hl 0 rfl) ?_
              refine va_get (v := .int (wrF (wrF 0 1) 2)) (T := TX11) (N := 35) hx hb hts inX11 hown hK hP 0 rfl rfl 5 (by decide) f101 (fun _ h9 => h9) rfl dX11_number_123 ?_
              refine lv_if_ne (tgt := 134) hx hb dX11_number_126 (by decide) (fun c_53 => ?_) (fun c_53 => ?_)
              · refine lv_iconst (v := 0) hx hb dX11_number_134 (by decide) ?_
                exact he_ri hQ hx hb hr hlk hP hD hS dX11_number_135 (Nat.le_of_ble_eq_true rfl) (Nat.le_of_ble_eq_true rfl) ((ee, wrF (wrF 0 1) 2, wrA (wrF 0 1) (wrA 0 fw (nI k2_5)) (nI k2_5))) (rfl) (by (try dsimp only); exact ⟨by (try dsimp only); omega, by (try dsimp only); omega, Or.inl ⟨by (try dsimp only); decide, rfl⟩⟩)
              · exact absurd c_53 (by decide)
          · have hlt : ee < n := dgI_lt c_44
            refine lv_bipush (v := 10) hx hb dX11_number_58 (by decide) ?_
            refine lv_iload hx hb dX11_number_60 (lv_at hl 4 rfl) ?_
            refine lv_imul hx hb dX11_number_62 ?_
            refine lv_aload_n hx hb dX11_number_63 rfl (lv_at hl 0 rfl) ?_
            refine lv_aload_n hx hb dX11_number_64 rfl (lv_at hl 0 rfl) ?_
            refine va_get (v := .int (nI ee)) (T := TX11) (N := 35) hx hb hts inX11 hown hK hP 0 rfl rfl 4 (by decide) f94 (fun _ h9 => h9) rfl dX11_number_65 ?_
            refine he_ci (wc := [(oX11 m0 tw ta (nI n) pl (nI ee) (wrF 0 1) (wrA 0 fw (nI k2_5)) cs fd rfm rt_ to_ rw_ wa ct rk rb cn br sm as_ go sh_ ir oa ob th ig sp_ ki tg of_ kp sf rs), (aI g fd 500 fb)]) (wr := []) (va_runV (As := [.int (nI ee)]) (rest := [.int (10 * vv)]) ⟨hx, hb, hml, hown, hts⟩ (h_X11_byteAt l g m0 fd rfm rt_ to_ rw_ wa rk rb cn br sm as_ go sh_ ki tg of_ kp rs ta pl cs ct ir oa ob th ig sp_ sf tw n ee (wrF 0 1) (wrA 0 fw (nI k2_5)) fb ee (by first | assumption | decide | omega) (by first | assumption | decide | omega) H.size) (cwV 1 hts gX11_number_X11_byteAt rfl rfl rfl (by decide +kernel) ⟨Nat.le_of_ble_eq_true rfl, Nat.le_of_ble_eq_true rfl⟩) (he_preV (wc := [(oX11 m0 tw ta (nI n) pl (nI ee) (wrF 0 1) (wrA 0 fw (nI k2_5)) cs fd rfm rt_ to_ rw_ wa ct rk rb cn br sm as_ go sh_ ir oa ob th ig sp_ ki tg of_ kp sf rs), (aI g fd 500 fb)]) hK hP hD hS hA hE [0, 1] rfl rfl 0 rfl rfl) rfl rfl hl.1 rfl (lv_room (Nat.le_of_ble_eq_true rfl)) dX11_number_68 ⟨(Nat.le_of_ble_eq_true rfl), (Nat.le_of_ble_eq_true rfl)⟩) hP hD hS hA [0, 1] [] rfl rfl rfl (by decide) (fun r_54 u_55 H locs h_56 hP hD hS => ?_)
            subst h_56
            have hP : va_P g.1 vwCl [(oX11 m0 tw ta (nI n) pl (nI ee) (wrF 0 1) (wrA 0 fw (nI k2_5)) cs fd rfm rt_ to_ rw_ wa ct rk rb cn br sm as_ go sh_ ir oa ob th ig sp_ ki tg of_ kp sf rs), (aI g fd 500 fb)] H := hP
            have hD : va_D A [(oX11 m0 tw ta (nI n) pl (nI ee) (wrF 0 1) (wrA 0 fw (nI k2_5)) cs fd rfm rt_ to_ rw_ wa ct rk rb cn br sm as_ go sh_ ir oa ob th ig sp_ ki tg of_ kp sf rs), (aI g fd 500 fb)] := hD
            refine lv_iadd hx hb dX11_number_71 ?_
            refine lv_bipush (v := 48) hx hb dX11_number_72 (by decide) ?_
            refine lv_isub hx hb dX11_number_74 ?_
            refine lv_istore (lv' := [(4, .int (((10 * vv) + (bAt fb n ee)) - 48)), (0, .ref m0), (1, .int lo), (2, .int hi), (3, .int (nI k2_5))]) hx hb dX11_number_75 hl (by decide) rfl (fun ls hl => ?_)
            refine lv_iload hx hb dX11_number_77 (lv_at hl 0 rfl) ?_
            refine lv_ldc (v := 100000) hx hb hown kc118 dX11_number_79 ?_
            refine lv_icmp_le (tgt := 89) hx hb dX11_number_81 (by decide) (fun c_57 => ?_) (fun c_57 => ?_)
            · refine lv_iload hx hb dX11_number_89 (lv_at hl 0 rfl) ?_
              refine lv_istore (lv' := [(4, .int (((10 * vv) + (bAt fb n ee)) - 48)), (0, .ref m0), (1, .int lo), (2, .int hi), (3, .int (nI k2_5))]) hx hb dX11_number_91 hl (by decide) rfl (fun ls hl => ?_)
              refine lv_aload_n hx hb dX11_number_93 rfl (lv_at hl 1 rfl) ?_
              refine lv_dup hx hb dX11_number_94 rfl ?_
              refine va_get (v := .int (nI ee)) (T := TX11) (N := 35) hx hb hts inX11 hown hK hP 0 rfl rfl 4 (by decide) f94 (fun _ h9 => h9) rfl dX11_number_95 ?_
              refine lv_iconst (v := 1) hx hb dX11_number_98 (by decide) ?_
              refine lv_iadd hx hb dX11_number_99 ?_
              refine he_top (nI (ee + 1)) (nI_add ee 1) ?_
              refine va_put (v := .int (nI (ee + 1))) (ty := .int) (T := TX11) (N := 35) hx hb hts inX11 tyX11 tyX11_ok nmX11 hown hK hP hD hS 0 rfl rfl 4 (by decide) f94 (fun _ h9 => h9) rfl (by decide +kernel) rfl rfl (Nat.le_of_ble_eq_true rfl) dX11_number_100 (fun H locs hP hD hS => ?_)
              have hP : va_P g.1 vwCl [(oX11 m0 tw ta (nI n) pl (nI (ee + 1)) (wrF 0 1) (wrA 0 fw (nI k2_5)) cs fd rfm rt_ to_ rw_ wa ct rk rb cn br sm as_ go sh_ ir oa ob th ig sp_ ki tg of_ kp sf rs), (aI g fd 500 fb)] H := hP
              have hD : va_D A [(oX11 m0 tw ta (nI n) pl (nI (ee + 1)) (wrF 0 1) (wrA 0 fw (nI k2_5)) cs fd rfm rt_ to_ rw_ wa ct rk rb cn br sm as_ go sh_ ir oa ob th ig sp_ ki tg of_ kp sf rs), (aI g fd 500 fb)] := hD
              refine lv_goto (tgt := 44) hx hb dX11_number_103 (by decide) ?_
              exact ih44 (ee + 1) (((10 * vv) + (bAt fb n ee)) - 48) (by omega) (by omega) (by omega) hd _ _ _ hP hD hS (lv_sub hl [1, 2, 3, 4, 0] rfl)
            · refine lv_ldc (v := 100000) hx hb hown kc118 dX11_number_84 ?_
              refine lv_goto (tgt := 91) hx hb dX11_number_86 (by decide) ?_
              refine lv_istore (lv' := [(4, .int 100000), (0, .ref m0), (1, .int lo), (2, .int hi), (3, .int (nI k2_5))]) hx hb dX11_number_91 hl (by decide) rfl (fun ls hl => ?_)
              refine lv_aload_n hx hb dX11_number_93 rfl (lv_at hl 1 rfl) ?_
              refine lv_dup hx hb dX11_number_94 rfl ?_
              refine va_get (v := .int (nI ee)) (T := TX11) (N := 35) hx hb hts inX11 hown hK hP 0 rfl rfl 4 (by decide) f94 (fun _ h9 => h9) rfl dX11_number_95 ?_
              refine lv_iconst (v := 1) hx hb dX11_number_98 (by decide) ?_
              refine lv_iadd hx hb dX11_number_99 ?_
              refine he_top (nI (ee + 1)) (nI_add ee 1) ?_
              refine va_put (v := .int (nI (ee + 1))) (ty := .int) (T := TX11) (N := 35) hx hb hts inX11 tyX11 tyX11_ok nmX11 hown hK hP hD hS 0 rfl rfl 4 (by decide) f94 (fun _ h9 => h9) rfl (by decide +kernel) rfl rfl (Nat.le_of_ble_eq_true rfl) dX11_number_100 (fun H locs hP hD hS => ?_)
              have hP : va_P g.1 vwCl [(oX11 m0 tw ta (nI n) pl (nI (ee + 1)) (wrF 0 1) (wrA 0 fw (nI k2_5)) cs fd rfm rt_ to_ rw_ wa ct rk rb cn br sm as_ go sh_ ir oa ob th ig sp_ ki tg of_ kp sf rs), (aI g fd 500 fb)] H := hP
              have hD : va_D A [(oX11 m0 tw ta (nI n) pl (nI (ee + 1)) (wrF 0 1) (wrA 0 fw (nI k2_5)) cs fd rfm rt_ to_ rw_ wa ct rk rb cn br sm as_ go sh_ ir oa ob th ig sp_ ki tg of_ kp sf rs), (aI g fd 500 fb)] := hD
              refine lv_goto (tgt := 44) hx hb dX11_number_103 (by decide) ?_
              exact ih44 (ee + 1) 100000 (by omega) (by omega) (by omega) hd _ _ _ hP hD hS (lv_sub hl [1, 2, 3, 4, 0] rfl)
      exact loop44 ((n - k2_5) + 1) k2_5 0 (Nat.lt_succ_self _) (Nat.le_refl _) (by omega) (Or.inr (by decide)) _ _ _ hP hD hS (lv_sub hl [2, 3, 4, 1, 0] rfl)
  · refine lv_iconst (v := 0) hx hb dX11_number_7 (by decide) ?_
    exact he_ri hQ hx hb hr hlk hP hD hS dX11_number_8 (Nat.le_of_ble_eq_true rfl) (Nat.le_of_ble_eq_true rfl) ((k, fa, fw)) (rfl) (by (try dsimp only); exact ⟨by (try dsimp only); omega, by (try dsimp only); omega, Or.inl ⟨c_1, rfl⟩⟩)
set_option maxHeartbeats 4000000 in
set_option maxRecDepth 100000 in
theorem h_X11_wordHere (l : Launch) (g : he_G) (m0 : Nat) (fd : Nat) (rfm : Nat) (rt_ : Nat) (to_ : Nat) (rw_ : Nat) (wa : Nat) (rk : Nat) (rb : Nat) (cn : Nat) (br : Nat) (sm : Nat) (as_ : Nat) (go : Nat) (sh_ : Nat) (ki : Nat) (tg : Nat) (of_ : Nat) (kp : Nat) (rs : Nat) (ta : Int32) (pl : Int32) (cs : Int32) (ct : Int32) (ir : Int32) (oa : Int32) (ob : Int32) (th : Int32) (ig : Int32) (sp_ : Int32) (sf : Int32) (tw : Int32) (n : Nat) (k : Nat) (fa : Int32) (fw : Int32) (fb : Nat → Int32) (hn : n ≤ 500) (hk : k ≤ n) : he_I l yX11_wordHere wsX11_wordHere 2 41 0 0 g [.ref m0] [(oX11 m0 tw ta (nI n) pl (nI k) fa fw cs fd rfm rt_ to_ rw_ wa ct rk rb cn br sm as_ go sh_ ir oa ob th ig sp_ ki tg of_ kp sf rs), (aI g fd 500 fb)] (fun (r : Int32) (u : Nat) => k ≤ u ∧ u ≤ n) (fun (u : Nat) => [(oX11 m0 tw ta (nI n) pl (nI u) fa fw cs fd rfm rt_ to_ rw_ wa ct rk rb cn br sm as_ go sh_ ir oa ob th ig sp_ ki tg of_ kp sf rs), (aI g fd 500 fb)]) := by
  refine he_begin (l := l) (g := g) (y := yX11_wordHere) (wl := wsX11_wordHere) (fr := 2) (lo := 41) (mc := 0) (ms := 0) (av := [.ref m0]) (ws := [(oX11 m0 tw ta (nI n) pl (nI k) fa fw cs fd rfm rt_ to_ rw_ wa ct rk rb cn br sm as_ go sh_ ir oa ob th ig sp_ ki tg of_ kp sf rs), (aI g fd 500 fb)]) (cc := cX11_wordHere) (maxL := 3) (ret := (some .int)) (fun A => va_Qi (fun (r : Int32) (u : Nat) => k ≤ u ∧ u ≤ n) (fun u t => he_post g A ((fun (u : Nat) => [(oX11 m0 tw ta (nI n) pl (nI u) fa fw cs fd rfm rt_ to_ rw_ wa ct rk rb cn br sm as_ go sh_ ir oa ob th ig sp_ ki tg of_ kp sf rs), (aI g fd 500 fb)]) u) t) A) (by decide) rfl (Nat.le_of_ble_eq_true rfl) ?_
  intro p e s m args below meth c A ls H locs Q hQ hB
  obtain ⟨hx, hb, hr, hml, hown, hts, hlk, hin, hP, hK, hD, hS, hA, hE, hl⟩ := hB
  have hl : lv_has ls 3 [(0, .ref m0)] := hl
  have f94 := hts (.fieldLink RX11 94 "HiredEnemyModel" "at" "I") (iwoX11_wordHere (k := 0) rfl)
  have inX11 : ∀ w ∈ wsX110, w ∈ wsX11_wordHere := innX11_wordHere_X11
  refine lv_aload_n hx hb dX11_wordHere_0 rfl (lv_at hl 0 rfl) ?_
  refine he_cv (wc := [(oX11 m0 tw ta (nI n) pl (nI k) fa fw cs fd rfm rt_ to_ rw_ wa ct rk rb cn br sm as_ go sh_ ir oa ob th ig sp_ ki tg of_ kp sf rs), (aI g fd 500 fb)]) (wr := []) (va_runV (As := []) (rest := []) ⟨hx, hb, hml, hown, hts⟩ (h_X11_blanks l g m0 fd rfm rt_ to_ rw_ wa rk rb cn br sm as_ go sh_ ki tg of_ kp rs ta pl cs ct ir oa ob th ig sp_ sf tw n k fa fw fb (by first | assumption | decide | omega) (by first | assumption | decide | omega) H.size) (cwV 0 hts gX11_wordHere_X11_blanks rfl rfl rfl (by decide +kernel) ⟨Nat.le_of_ble_eq_true rfl, Nat.le_of_ble_eq_true rfl⟩) (he_preV (wc := [(oX11 m0 tw ta (nI n) pl (nI k) fa fw cs fd rfm rt_ to_ rw_ wa ct rk rb cn br sm as_ go sh_ ir oa ob th ig sp_ ki tg of_ kp sf rs), (aI g fd 500 fb)]) hK hP hD hS hA hE [0, 1] rfl rfl 0 rfl rfl) rfl rfl hl.1 rfl (lv_room (Nat.le_of_ble_eq_true rfl)) dX11_wordHere_1 ⟨(Nat.le_of_ble_eq_true rfl), (Nat.le_of_ble_eq_true rfl)⟩) hP hD hS hA [0, 1] [] rfl rfl rfl (by decide) (fun u_2 H locs h_3 hP hD hS => ?_)
  obtain ⟨k2_4, rfl⟩ : ∃ z, z = u_2 := ⟨_, rfl⟩
  try dsimp only at h_3
  obtain ⟨hf_5, hf_6⟩ := h_3
  have hP : va_P g.1 vwCl [(oX11 m0 tw ta (nI n) pl (nI k2_4) fa fw cs fd rfm rt_ to_ rw_ wa ct rk rb cn br sm as_ go sh_ ir oa ob th ig sp_ ki tg of_ kp sf rs), (aI g fd 500 fb)] H := hP
  have hD : va_D A [(oX11 m0 tw ta (nI n) pl (nI k2_4) fa fw cs fd rfm rt_ to_ rw_ wa ct rk rb cn br sm as_ go sh_ ir oa ob th ig sp_ ki tg of_ kp sf rs), (aI g fd 500 fb)] := hD
  refine lv_iconst (v := 0) hx hb dX11_wordHere_4 (by decide) ?_
  refine lv_istore_n (lv' := [(1, .int 0), (0, .ref m0)]) hx hb dX11_wordHere_5 rfl hl (by decide) rfl (fun ls hl => ?_)
  refine lv_iconst (v := 0) hx hb dX11_wordHere_6 (by decide) ?_
  refine lv_istore_n (lv' := [(2, .int 0), (1, .int 0), (0, .ref m0)]) hx hb dX11_wordHere_7 rfl hl (by decide) rfl (fun ls hl => ?_)
  have loop8 : ∀ (n9 : Nat) (j : Nat) (vv : Int32), n - j < n9 → (j ≤ n) → ∀ (H : Heap) (locs : List Loc) (ls : Array Slot), va_P g.1 vwCl [(oX11 m0 tw ta (nI n) pl (nI k2_4) fa fw cs fd rfm rt_ to_ rw_ wa ct rk rb cn br sm as_ go sh_ ir oa ob th ig sp_ ki tg of_ kp sf rs), (aI g fd 500 fb)] H → va_D A [(oX11 m0 tw ta (nI n) pl (nI k2_4) fa fw cs fd rfm rt_ to_ rw_ wa ct rk rb cn br sm as_ go sh_ ir oa ob th ig sp_ ki tg of_ kp sf rs), (aI g fd 500 fb)] → va_S A s.heap H locs → lv_has ls 3 [(0, .ref m0), (1, .int vv), (2, .int (nI j))] → W p l e (he_room 2 41 0 0) s m args below meth c H locs 0 0 Q (F0 m 8 ls []) := by
    intro n9
    induction n9 with
    | zero => intro j vv hm9; exact absurd hm9 (Nat.not_lt_zero _)
    | succ n9 ih8 =>
      intro j vv hm9 hj H locs ls hP hD hS hl
      refine lv_aload_n hx hb dX11_wordHere_8 rfl (lv_at hl 0 rfl) ?_
      refine lv_aload_n hx hb dX11_wordHere_9 rfl (lv_at hl 0 rfl) ?_
      refine va_get (v := .int (nI k2_4)) (T := TX11) (N := 35) hx hb hts inX11 hown hK hP 0 rfl rfl 4 (by decide) f94 (fun _ h9 => h9) rfl dX11_wordHere_10 ?_
      refine lv_iload_n hx hb dX11_wordHere_13 rfl (lv_at hl 2 rfl) ?_
      refine lv_iadd hx hb dX11_wordHere_14 ?_
      refine he_top (nI (k2_4 + j)) (nI_add k2_4 j) ?_
      refine he_ci (wc := [(oX11 m0 tw ta (nI n) pl (nI k2_4) fa fw cs fd rfm rt_ to_ rw_ wa ct rk rb cn br sm as_ go sh_ ir oa ob th ig sp_ ki tg of_ kp sf rs), (aI g fd 500 fb)]) (wr := []) (va_runV (As := [.int (nI (k2_4 + j))]) (rest := []) ⟨hx, hb, hml, hown, hts⟩ (h_X11_byteAt l g m0 fd rfm rt_ to_ rw_ wa rk rb cn br sm as_ go sh_ ki tg of_ kp rs ta pl cs ct ir oa ob th ig sp_ sf tw n k2_4 fa fw fb (k2_4 + j) (by first | assumption | decide | omega) (by first | assumption | decide | omega) H.size) (cwV 1 hts gX11_wordHere_X11_byteAt rfl rfl rfl (by decide +kernel) ⟨Nat.le_of_ble_eq_true rfl, Nat.le_of_ble_eq_true rfl⟩) (he_preV (wc := [(oX11 m0 tw ta (nI n) pl (nI k2_4) fa fw cs fd rfm rt_ to_ rw_ wa ct rk rb cn br sm as_ go sh_ ir oa ob th ig sp_ ki tg of_ kp sf rs), (aI g fd 500 fb)]) hK hP hD hS hA hE [0, 1] rfl rfl 0 rfl rfl) rfl rfl hl.1 rfl (lv_room (Nat.le_of_ble_eq_true rfl)) dX11_wordHere_15 ⟨(Nat.le_of_ble_eq_true rfl), (Nat.le_of_ble_eq_true rfl)⟩) hP hD hS hA [0, 1] [] rfl rfl rfl (by decide) (fun r_7 u_8 H locs h_9 hP hD hS => ?_)
      subst h_9
      have hP : va_P g.1 vwCl [(oX11 m0 tw ta (nI n) pl (nI k2_4) fa fw cs fd rfm rt_ to_ rw_ wa ct rk rb cn br sm as_ go sh_ ir oa ob th ig sp_ ki tg of_ kp sf rs), (aI g fd 500 fb)] H := hP
      have hD : va_D A [(oX11 m0 tw ta (nI n) pl (nI k2_4) fa fw cs fd rfm rt_ to_ rw_ wa ct rk rb cn br sm as_ go sh_ ir oa ob th ig sp_ ki tg of_ kp sf rs), (aI g fd 500 fb)] := hD
      refine lv_bipush (v := 97) hx hb dX11_wordHere_18 (by decide) ?_
      refine lv_icmp_lt (tgt := 75) hx hb dX11_wordHere_20 (by decide) (fun c_10 => ?_) (fun c_10 => ?_)
      · refine lv_iload_n hx hb dX11_wordHere_75 rfl (lv_at hl 2 rfl) ?_
        refine lv_bipush (v := 6) hx hb dX11_wordHere_76 (by decide) ?_
        refine lv_icmp_le (tgt := 85) hx hb dX11_wordHere_78 (by decide) (fun c_11 => ?_) (fun c_11 => ?_)
        · have k_12 : j ≤ 6 := (he_cle (a := j) (b := 6) rfl (by decide) (by omega) (by omega)).mp c_11
          refine lv_iload_n hx hb dX11_wordHere_85 rfl (lv_at hl 1 rfl) ?_
          exact he_ri hQ hx hb hr hlk hP hD hS dX11_wordHere_86 (Nat.le_of_ble_eq_true rfl) (Nat.le_of_ble_eq_true rfl) (k2_4) (rfl) (⟨by omega, by omega⟩)
        · have k_13 : ¬ (j ≤ 6) := fun h9 => c_11 ((he_cle (a := j) (b := 6) rfl (by decide) (by omega) (by omega)).mpr h9)
          refine lv_iconst (v := (-1)) hx hb dX11_wordHere_81 (by decide) ?_
          refine lv_goto (tgt := 86) hx hb dX11_wordHere_82 (by decide) ?_
          exact he_ri hQ hx hb hr hlk hP hD hS dX11_wordHere_86 (Nat.le_of_ble_eq_true rfl) (Nat.le_of_ble_eq_true rfl) (k2_4) (rfl) (⟨by omega, by omega⟩)
      · have hlt : k2_4 + j < n := bAt_ge (Int32.not_lt.mp c_10) (by decide)
        refine lv_aload_n hx hb dX11_wordHere_23 rfl (lv_at hl 0 rfl) ?_
        refine lv_aload_n hx hb dX11_wordHere_24 rfl (lv_at hl 0 rfl) ?_
        refine va_get (v := .int (nI k2_4)) (T := TX11) (N := 35) hx hb hts inX11 hown hK hP 0 rfl rfl 4 (by decide) f94 (fun _ h9 => h9) rfl dX11_wordHere_25 ?_
        refine lv_iload_n hx hb dX11_wordHere_28 rfl (lv_at hl 2 rfl) ?_
        refine lv_iadd hx hb dX11_wordHere_29 ?_
        refine he_top (nI (k2_4 + j)) (nI_add k2_4 j) ?_
        refine he_ci (wc := [(oX11 m0 tw ta (nI n) pl (nI k2_4) fa fw cs fd rfm rt_ to_ rw_ wa ct rk rb cn br sm as_ go sh_ ir oa ob th ig sp_ ki tg of_ kp sf rs), (aI g fd 500 fb)]) (wr := []) (va_runV (As := [.int (nI (k2_4 + j))]) (rest := []) ⟨hx, hb, hml, hown, hts⟩ (h_X11_byteAt l g m0 fd rfm rt_ to_ rw_ wa rk rb cn br sm as_ go sh_ ki tg of_ kp rs ta pl cs ct ir oa ob th ig sp_ sf tw n k2_4 fa fw fb (k2_4 + j) (by first | assumption | decide | omega) (by first | assumption | decide | omega) H.size) (cwV 1 hts gX11_wordHere_X11_byteAt rfl rfl rfl (by decide +kernel) ⟨Nat.le_of_ble_eq_true rfl, Nat.le_of_ble_eq_true rfl⟩) (he_preV (wc := [(oX11 m0 tw ta (nI n) pl (nI k2_4) fa fw cs fd rfm rt_ to_ rw_ wa ct rk rb cn br sm as_ go sh_ ir oa ob th ig sp_ ki tg of_ kp sf rs), (aI g fd 500 fb)]) hK hP hD hS hA hE [0, 1] rfl rfl 0 rfl rfl) rfl rfl hl.1 rfl (lv_room (Nat.le_of_ble_eq_true rfl)) dX11_wordHere_30 ⟨(Nat.le_of_ble_eq_true rfl), (Nat.le_of_ble_eq_true rfl)⟩) hP hD hS hA [0, 1] [] rfl rfl rfl (by decide) (fun r_14 u_15 H locs h_16 hP hD hS => ?_)
        subst h_16
        have hP : va_P g.1 vwCl [(oX11 m0 tw ta (nI n) pl (nI k2_4) fa fw cs fd rfm rt_ to_ rw_ wa ct rk rb cn br sm as_ go sh_ ir oa ob th ig sp_ ki tg of_ kp sf rs), (aI g fd 500 fb)] H := hP
        have hD : va_D A [(oX11 m0 tw ta (nI n) pl (nI k2_4) fa fw cs fd rfm rt_ to_ rw_ wa ct rk rb cn br sm as_ go sh_ ir oa ob th ig sp_ ki tg of_ kp sf rs), (aI g fd 500 fb)] := hD
        refine lv_bipush (v := 122) hx hb dX11_wordHere_33 (by decide) ?_
        refine lv_icmp_gt (tgt := 75) hx hb dX11_wordHere_35 (by decide) (fun c_17 => ?_) (fun c_17 => ?_)
        · refine lv_iload_n hx hb dX11_wordHere_75 rfl (lv_at hl 2 rfl) ?_
          refine lv_bipush (v := 6) hx hb dX11_wordHere_76 (by decide) ?_
          refine lv_icmp_le (tgt := 85) hx hb dX11_wordHere_78 (by decide) (fun c_18 => ?_) (fun c_18 => ?_)
          · have k_19 : j ≤ 6 := (he_cle (a := j) (b := 6) rfl (by decide) (by omega) (by omega)).mp c_18
            refine lv_iload_n hx hb dX11_wordHere_85 rfl (lv_at hl 1 rfl) ?_
            exact he_ri hQ hx hb hr hlk hP hD hS dX11_wordHere_86 (Nat.le_of_ble_eq_true rfl) (Nat.le_of_ble_eq_true rfl) (k2_4) (rfl) (⟨by omega, by omega⟩)
          · have k_20 : ¬ (j ≤ 6) := fun h9 => c_18 ((he_cle (a := j) (b := 6) rfl (by decide) (by omega) (by omega)).mpr h9)
            refine lv_iconst (v := (-1)) hx hb dX11_wordHere_81 (by decide) ?_
            refine lv_goto (tgt := 86) hx hb dX11_wordHere_82 (by decide) ?_
            exact he_ri hQ hx hb hr hlk hP hD hS dX11_wordHere_86 (Nat.le_of_ble_eq_true rfl) (Nat.le_of_ble_eq_true rfl) (k2_4) (rfl) (⟨by omega, by omega⟩)
        · have join68 : ∀ (tv : Int32), ∀ (H : Heap) (locs : List Loc) (ls : Array Slot), va_P g.1 vwCl [(oX11 m0 tw ta (nI n) pl (nI k2_4) fa fw cs fd rfm rt_ to_ rw_ wa ct rk rb cn br sm as_ go sh_ ir oa ob th ig sp_ ki tg of_ kp sf rs), (aI g fd 500 fb)] H → va_D A [(oX11 m0 tw ta (nI n) pl (nI k2_4) fa fw cs fd rfm rt_ to_ rw_ wa ct rk rb cn br sm as_ go sh_ ir oa ob th ig sp_ ki tg of_ kp sf rs), (aI g fd 500 fb)] → va_S A s.heap H locs → lv_has ls 3 [(0, .ref m0), (1, .int vv), (2, .int (nI j))] → W p l e (he_room 2 41 0 0) s m args below meth c H locs 0 0 Q (F0 m 68 ls [.int tv]) := by
            intro tv H locs ls hP hD hS hl
            refine lv_istore_n (lv' := [(1, .int tv), (0, .ref m0), (2, .int (nI j))]) hx hb dX11_wordHere_68 rfl hl (by decide) rfl (fun ls hl => ?_)
            refine lv_iinc (v := nI (j + 1)) (lv' := [(2, .int (nI (j + 1))), (1, .int tv), (0, .ref m0)]) hx hb dX11_wordHere_69 hl (k := 2) rfl (nI_1 j) (by decide) rfl (fun ls hl => ?_)
            refine lv_goto (tgt := 8) hx hb dX11_wordHere_72 (by decide) ?_
            exact ih8 (j + 1) tv (by omega) (by omega) _ _ _ hP hD hS (lv_sub hl [2, 1, 0] rfl)
          refine lv_iload_n hx hb dX11_wordHere_38 rfl (lv_at hl 2 rfl) ?_
          refine lv_bipush (v := 6) hx hb dX11_wordHere_39 (by decide) ?_
          refine lv_icmp_ge (tgt := 67) hx hb dX11_wordHere_41 (by decide) (fun c_21 => ?_) (fun c_21 => ?_)
          · have k_22 : 6 ≤ j := (he_cle (a := 6) (b := j) (by decide) rfl (by omega) (by omega)).mp c_21
            refine lv_iload_n hx hb dX11_wordHere_67 rfl (lv_at hl 1 rfl) ?_
            exact join68 vv  _ _ _ hP hD hS (lv_sub hl [0, 1, 2] rfl)
          · have k_23 : ¬ (6 ≤ j) := fun h9 => c_21 ((he_cle (a := 6) (b := j) (by decide) rfl (by omega) (by omega)).mpr h9)
            refine lv_bipush (v := 27) hx hb dX11_wordHere_44 (by decide) ?_
            refine lv_iload_n hx hb dX11_wordHere_46 rfl (lv_at hl 1 rfl) ?_
            refine lv_imul hx hb dX11_wordHere_47 ?_
            refine lv_aload_n hx hb dX11_wordHere_48 rfl (lv_at hl 0 rfl) ?_
            refine lv_aload_n hx hb dX11_wordHere_49 rfl (lv_at hl 0 rfl) ?_
            refine va_get (v := .int (nI k2_4)) (T := TX11) (N := 35) hx hb hts inX11 hown hK hP 0 rfl rfl 4 (by decide) f94 (fun _ h9 => h9) rfl dX11_wordHere_50 ?_
            refine lv_iload_n hx hb dX11_wordHere_53 rfl (lv_at hl 2 rfl) ?_
            refine lv_iadd hx hb dX11_wordHere_54 ?_
            refine he_top (nI (k2_4 + j)) (nI_add k2_4 j) ?_
            refine he_ci (wc := [(oX11 m0 tw ta (nI n) pl (nI k2_4) fa fw cs fd rfm rt_ to_ rw_ wa ct rk rb cn br sm as_ go sh_ ir oa ob th ig sp_ ki tg of_ kp sf rs), (aI g fd 500 fb)]) (wr := []) (va_runV (As := [.int (nI (k2_4 + j))]) (rest := [.int (27 * vv)]) ⟨hx, hb, hml, hown, hts⟩ (h_X11_byteAt l g m0 fd rfm rt_ to_ rw_ wa rk rb cn br sm as_ go sh_ ki tg of_ kp rs ta pl cs ct ir oa ob th ig sp_ sf tw n k2_4 fa fw fb (k2_4 + j) (by first | assumption | decide | omega) (by first | assumption | decide | omega) H.size) (cwV 1 hts gX11_wordHere_X11_byteAt rfl rfl rfl (by decide +kernel) ⟨Nat.le_of_ble_eq_true rfl, Nat.le_of_ble_eq_true rfl⟩) (he_preV (wc := [(oX11 m0 tw ta (nI n) pl (nI k2_4) fa fw cs fd rfm rt_ to_ rw_ wa ct rk rb cn br sm as_ go sh_ ir oa ob th ig sp_ ki tg of_ kp sf rs), (aI g fd 500 fb)]) hK hP hD hS hA hE [0, 1] rfl rfl 0 rfl rfl) rfl rfl hl.1 rfl (lv_room (Nat.le_of_ble_eq_true rfl)) dX11_wordHere_55 ⟨(Nat.le_of_ble_eq_true rfl), (Nat.le_of_ble_eq_true rfl)⟩) hP hD hS hA [0, 1] [] rfl rfl rfl (by decide) (fun r_24 u_25 H locs h_26 hP hD hS => ?_)
            subst h_26
            have hP : va_P g.1 vwCl [(oX11 m0 tw ta (nI n) pl (nI k2_4) fa fw cs fd rfm rt_ to_ rw_ wa ct rk rb cn br sm as_ go sh_ ir oa ob th ig sp_ ki tg of_ kp sf rs), (aI g fd 500 fb)] H := hP
            have hD : va_D A [(oX11 m0 tw ta (nI n) pl (nI k2_4) fa fw cs fd rfm rt_ to_ rw_ wa ct rk rb cn br sm as_ go sh_ ir oa ob th ig sp_ ki tg of_ kp sf rs), (aI g fd 500 fb)] := hD
            refine lv_iadd hx hb dX11_wordHere_58 ?_
            refine lv_bipush (v := 97) hx hb dX11_wordHere_59 (by decide) ?_
            refine lv_isub hx hb dX11_wordHere_61 ?_
            refine lv_iconst (v := 1) hx hb dX11_wordHere_62 (by decide) ?_
            refine lv_iadd hx hb dX11_wordHere_63 ?_
            refine lv_goto (tgt := 68) hx hb dX11_wordHere_64 (by decide) ?_
            exact join68 ((((27 * vv) + (bAt fb n (k2_4 + j))) - 97) + 1)  _ _ _ hP hD hS (lv_sub hl [0, 1, 2] rfl)
  exact loop8 ((n - 0) + 1) 0 0 (Nat.lt_succ_self _) (Nat.zero_le _) _ _ _ hP hD hS (lv_sub hl [2, 1, 0] rfl)
set_option maxHeartbeats 4000000 in
set_option maxRecDepth 100000 in
theorem h_X11_six_23_1_12_12_0_0 (l : Launch) (g : he_G)   : he_I l yX11_six wsX11_six 0 0 0 0 g [.int 23, .int 1, .int 12, .int 12, .int 0, .int 0] [] (fun (r : Int32) (u : Unit) => r = 453774) (fun (u : Unit) => []) := by
  refine he_begin (l := l) (g := g) (y := yX11_six) (wl := wsX11_six) (fr := 0) (lo := 0) (mc := 0) (ms := 0) (av := [.int 23, .int 1, .int 12, .int 12, .int 0, .int 0]) (ws := []) (cc := cX11_six) (maxL := 7) (ret := (some .int)) (fun A => va_Qi (fun (r : Int32) (u : Unit) => r = 453774) (fun u t => he_post g A ((fun (u : Unit) => []) u) t) A) (by decide) rfl (Nat.le_of_ble_eq_true rfl) ?_
  intro p e s m args below meth c A ls H locs Q hQ hB
  obtain ⟨hx, hb, hr, hml, hown, hts, hlk, hin, hP, hK, hD, hS, hA, hE, hl⟩ := hB
  have hl : lv_has ls 7 [(0, .int 23), (1, .int 1), (2, .int 12), (3, .int 12), (4, .int 0), (5, .int 0)] := hl
  refine lv_bipush (v := 27) hx hb dX11_six_0 (by decide) ?_
  refine lv_bipush (v := 27) hx hb dX11_six_2 (by decide) ?_
  refine lv_bipush (v := 27) hx hb dX11_six_4 (by decide) ?_
  refine lv_iload_n hx hb dX11_six_6 rfl (lv_at hl 0 rfl) ?_
  refine lv_imul hx hb dX11_six_7 ?_
  refine he_top (621) (by decide) ?_
  refine lv_iload_n hx hb dX11_six_8 rfl (lv_at hl 1 rfl) ?_
  refine lv_iadd hx hb dX11_six_9 ?_
  refine he_top (622) (by decide) ?_
  refine lv_imul hx hb dX11_six_10 ?_
  refine he_top (16794) (by decide) ?_
  refine lv_iload_n hx hb dX11_six_11 rfl (lv_at hl 2 rfl) ?_
  refine lv_iadd hx hb dX11_six_12 ?_
  refine he_top (16806) (by decide) ?_
  refine lv_imul hx hb dX11_six_13 ?_
  refine he_top (453762) (by decide) ?_
  refine lv_istore (lv' := [(6, .int 453762), (0, .int 23), (1, .int 1), (2, .int 12), (3, .int 12), (4, .int 0), (5, .int 0)]) hx hb dX11_six_14 hl (by decide) rfl (fun ls hl => ?_)
  refine lv_iload_n hx hb dX11_six_16 rfl (lv_at hl 4 rfl) ?_
  refine lv_if_ne (tgt := 28) hx hb dX11_six_17 (by decide) (fun c_1 => ?_) (fun c_1 => ?_)
  · refine lv_iload hx hb dX11_six_28 (lv_at hl 0 rfl) ?_
    refine lv_iload_n hx hb dX11_six_30 rfl (lv_at hl 4 rfl) ?_
    refine lv_iadd hx hb dX11_six_31 ?_
    refine he_top (453774) (by decide) ?_
    refine lv_istore (lv' := [(6, .int 453774), (0, .int 23), (1, .int 1), (2, .int 12), (3, .int 12), (4, .int 0), (5, .int 0)]) hx hb dX11_six_32 hl (by decide) rfl (fun ls hl => ?_)
    refine lv_iload hx hb dX11_six_34 (lv_at hl 5 rfl) ?_
    refine lv_if_ne (tgt := 44) hx hb dX11_six_36 (by decide) (fun c_2 => ?_) (fun c_2 => ?_)
    · exact absurd (by decide) c_2
    · refine lv_iload hx hb dX11_six_39 (lv_at hl 0 rfl) ?_
      refine lv_goto (tgt := 52) hx hb dX11_six_41 (by decide) ?_
      refine lv_istore (lv' := [(6, .int 453774), (0, .int 23), (1, .int 1), (2, .int 12), (3, .int 12), (4, .int 0), (5, .int 0)]) hx hb dX11_six_52 hl (by decide) rfl (fun ls hl => ?_)
      refine lv_iload hx hb dX11_six_54 (lv_at hl 6 rfl) ?_
      refine lv_if_ne (tgt := 64) hx hb dX11_six_56 (by decide) (fun c_3 => ?_) (fun c_3 => ?_)
      · exact absurd (by decide) c_3
      · refine lv_iload hx hb dX11_six_59 (lv_at hl 0 rfl) ?_
        refine lv_goto (tgt := 72) hx hb dX11_six_61 (by decide) ?_
        exact he_ri hQ hx hb hr hlk hP hD hS dX11_six_72 (Nat.le_of_ble_eq_true rfl) (Nat.le_of_ble_eq_true rfl) (()) (rfl) (rfl)
  · exact absurd c_1 (by decide)
set_option maxHeartbeats 4000000 in
set_option maxRecDepth 100000 in
theorem h_X11_isWord_23_1_12_12_0_0 (l : Launch) (g : he_G) (m0 : Nat) (fd : Nat) (rfm : Nat) (rt_ : Nat) (to_ : Nat) (rw_ : Nat) (wa : Nat) (rk : Nat) (rb : Nat) (cn : Nat) (br : Nat) (sm : Nat) (as_ : Nat) (go : Nat) (sh_ : Nat) (ki : Nat) (tg : Nat) (of_ : Nat) (kp : Nat) (rs : Nat) (ta : Int32) (pl : Int32) (cs : Int32) (ct : Int32) (ir : Int32) (oa : Int32) (ob : Int32) (th : Int32) (ig : Int32) (sp_ : Int32) (sf : Int32) (tw : Int32) (n : Nat) (k : Nat) (fw : Int32) (fb : Nat → Int32) (hn : n ≤ 500) (hk : k ≤ n) : he_I l yX11_isWord wsX11_isWord 3 63 0 0 g [.ref m0, .int 23, .int 1, .int 12, .int 12, .int 0, .int 0] [(oX11 m0 tw ta (nI n) pl (nI k) 0 fw cs fd rfm rt_ to_ rw_ wa ct rk rb cn br sm as_ go sh_ ir oa ob th ig sp_ ki tg of_ kp sf rs), (aI g fd 500 fb)] (fun (r : Int32) (u : Nat) => (r = 0 ∨ r = 1) ∧ k ≤ u ∧ u ≤ n) (fun (u : Nat) => [(oX11 m0 tw ta (nI n) pl (nI u) 0 fw cs fd rfm rt_ to_ rw_ wa ct rk rb cn br sm as_ go sh_ ir oa ob th ig sp_ ki tg of_ kp sf rs), (aI g fd 500 fb)]) := by
  refine he_begin (l := l) (g := g) (y := yX11_isWord) (wl := wsX11_isWord) (fr := 3) (lo := 63) (mc := 0) (ms := 0) (av := [.ref m0, .int 23, .int 1, .int 12, .int 12, .int 0, .int 0]) (ws := [(oX11 m0 tw ta (nI n) pl (nI k) 0 fw cs fd rfm rt_ to_ rw_ wa ct rk rb cn br sm as_ go sh_ ir oa ob th ig sp_ ki tg of_ kp sf rs), (aI g fd 500 fb)]) (cc := cX11_isWord) (maxL := 7) (ret := (some .boolean)) (fun A => va_Qi (fun (r : Int32) (u : Nat) => (r = 0 ∨ r = 1) ∧ k ≤ u ∧ u ≤ n) (fun u t => he_post g A ((fun (u : Nat) => [(oX11 m0 tw ta (nI n) pl (nI u) 0 fw cs fd rfm rt_ to_ rw_ wa ct rk rb cn br sm as_ go sh_ ir oa ob th ig sp_ ki tg of_ kp sf rs), (aI g fd 500 fb)]) u) t) A) (by decide) rfl (Nat.le_of_ble_eq_true rfl) ?_
  intro p e s m args below meth c A ls H locs Q hQ hB
  obtain ⟨hx, hb, hr, hml, hown, hts, hlk, hin, hP, hK, hD, hS, hA, hE, hl⟩ := hB
  have hl : lv_has ls 7 [(0, .ref m0), (1, .int 23), (2, .int 1), (3, .int 12), (4, .int 12), (5, .int 0), (6, .int 0)] := hl
  have f101 := hts (.fieldLink RX11 101 "HiredEnemyModel" "fault" "I") (iwoX11_isWord (k := 0) rfl)
  have inX11 : ∀ w ∈ wsX110, w ∈ wsX11_isWord := innX11_isWord_X11
  refine lv_aload_n hx hb dX11_isWord_0 rfl (lv_at hl 0 rfl) ?_
  refine va_get (v := .int 0) (T := TX11) (N := 35) hx hb hts inX11 hown hK hP 0 rfl rfl 5 (by decide) f101 (fun _ h9 => h9) rfl dX11_isWord_1 ?_
  refine lv_if_ne (tgt := 30) hx hb dX11_isWord_4 (by decide) (fun c_1 => ?_) (fun c_1 => ?_)
  · exact absurd (by decide) c_1
  · refine lv_aload_n hx hb dX11_isWord_7 rfl (lv_at hl 0 rfl) ?_
    refine he_ci (wc := [(oX11 m0 tw ta (nI n) pl (nI k) 0 fw cs fd rfm rt_ to_ rw_ wa ct rk rb cn br sm as_ go sh_ ir oa ob th ig sp_ ki tg of_ kp sf rs), (aI g fd 500 fb)]) (wr := []) (va_runV (As := []) (rest := []) ⟨hx, hb, hml, hown, hts⟩ (h_X11_wordHere l g m0 fd rfm rt_ to_ rw_ wa rk rb cn br sm as_ go sh_ ki tg of_ kp rs ta pl cs ct ir oa ob th ig sp_ sf tw n k 0 fw fb (by first | assumption | decide | omega) (by first | assumption | decide | omega) H.size) (cwV 0 hts gX11_isWord_X11_wordHere rfl rfl rfl (by decide +kernel) ⟨Nat.le_of_ble_eq_true rfl, Nat.le_of_ble_eq_true rfl⟩) (he_preV (wc := [(oX11 m0 tw ta (nI n) pl (nI k) 0 fw cs fd rfm rt_ to_ rw_ wa ct rk rb cn br sm as_ go sh_ ir oa ob th ig sp_ ki tg of_ kp sf rs), (aI g fd 500 fb)]) hK hP hD hS hA hE [0, 1] rfl rfl 0 rfl rfl) rfl rfl hl.1 rfl (lv_room (Nat.le_of_ble_eq_true rfl)) dX11_isWord_8 ⟨(Nat.le_of_ble_eq_true rfl), (Nat.le_of_ble_eq_true rfl)⟩) hP hD hS hA [0, 1] [] rfl rfl rfl (by decide) (fun r_2 u_3 H locs h_4 hP hD hS => ?_)
    obtain ⟨k2_5, rfl⟩ : ∃ z, z = u_3 := ⟨_, rfl⟩
    try dsimp only at h_4
    obtain ⟨hf_6, hf_7⟩ := h_4
    have hP : va_P g.1 vwCl [(oX11 m0 tw ta (nI n) pl (nI k2_5) 0 fw cs fd rfm rt_ to_ rw_ wa ct rk rb cn br sm as_ go sh_ ir oa ob th ig sp_ ki tg of_ kp sf rs), (aI g fd 500 fb)] H := hP
    have hD : va_D A [(oX11 m0 tw ta (nI n) pl (nI k2_5) 0 fw cs fd rfm rt_ to_ rw_ wa ct rk rb cn br sm as_ go sh_ ir oa ob th ig sp_ ki tg of_ kp sf rs), (aI g fd 500 fb)] := hD
    refine lv_iload_n hx hb dX11_isWord_11 rfl (lv_at hl 1 rfl) ?_
    refine lv_iload_n hx hb dX11_isWord_12 rfl (lv_at hl 2 rfl) ?_
    refine lv_iload_n hx hb dX11_isWord_13 rfl (lv_at hl 3 rfl) ?_
    refine lv_iload hx hb dX11_isWord_14 (lv_at hl 4 rfl) ?_
    refine lv_iload hx hb dX11_isWord_16 (lv_at hl 5 rfl) ?_
    refine lv_iload hx hb dX11_isWord_18 (lv_at hl 6 rfl) ?_
    refine he_ci (wc := []) (wr := [(oX11 m0 tw ta (nI n) pl (nI k2_5) 0 fw cs fd rfm rt_ to_ rw_ wa ct rk rb cn br sm as_ go sh_ ir oa ob th ig sp_ ki tg of_ kp sf rs), (aI g fd 500 fb)]) (va_runS (As := [.int 23, .int 1, .int 12, .int 12, .int 0, .int 0]) (rest := [.int r_2]) ⟨hx, hb, hml, hown, hts⟩ (h_X11_six_23_1_12_12_0_0 l g  H.size) (va_cwS 6 hts gX11_isWord_X11_six rfl rfl rfl (by decide +kernel) ⟨Nat.le_of_ble_eq_true rfl, Nat.le_of_ble_eq_true rfl⟩) (he_preS (wc := []) hK hP hD hS hA hE [] rfl rfl) rfl rfl hl.1 rfl (lv_room (Nat.le_of_ble_eq_true rfl)) dX11_isWord_20 ⟨(Nat.le_of_ble_eq_true rfl), (Nat.le_of_ble_eq_true rfl)⟩) hP hD hS hA [] [0, 1] rfl rfl rfl (by decide) (fun r_8 u_9 H locs h_10 hP hD hS => ?_)
    subst h_10
    have hP : va_P g.1 vwCl [(oX11 m0 tw ta (nI n) pl (nI k2_5) 0 fw cs fd rfm rt_ to_ rw_ wa ct rk rb cn br sm as_ go sh_ ir oa ob th ig sp_ ki tg of_ kp sf rs), (aI g fd 500 fb)] H := hP
    have hD : va_D A [(oX11 m0 tw ta (nI n) pl (nI k2_5) 0 fw cs fd rfm rt_ to_ rw_ wa ct rk rb cn br sm as_ go sh_ ir oa ob th ig sp_ ki tg of_ kp sf rs), (aI g fd 500 fb)] := hD
    refine lv_icmp_ne (tgt := 30) hx hb dX11_isWord_23 (by decide) (fun c_11 => ?_) (fun c_11 => ?_)
    · refine lv_iconst (v := 0) hx hb dX11_isWord_30 (by decide) ?_
      exact he_rz hQ hx hb hr hlk hP hD hS dX11_isWord_31 (Nat.le_of_ble_eq_true rfl) (Nat.le_of_ble_eq_true rfl) rfl (k2_5) (rfl) (⟨Or.inl rfl, by omega, by omega⟩)
    · refine lv_iconst (v := 1) hx hb dX11_isWord_26 (by decide) ?_
      refine lv_goto (tgt := 31) hx hb dX11_isWord_27 (by decide) ?_
      exact he_rz hQ hx hb hr hlk hP hD hS dX11_isWord_31 (Nat.le_of_ble_eq_true rfl) (Nat.le_of_ble_eq_true rfl) rfl (k2_5) (rfl) (⟨Or.inr rfl, by omega, by omega⟩)
set_option maxHeartbeats 4000000 in
set_option maxRecDepth 100000 in
theorem h_X11_six_4_21_11_5_0_0 (l : Launch) (g : he_G)   : he_I l yX11_six wsX11_six 0 0 0 0 g [.int 4, .int 21, .int 11, .int 5, .int 0, .int 0] [] (fun (r : Int32) (u : Unit) => r = 94343) (fun (u : Unit) => []) := by
  refine he_begin (l := l) (g := g) (y := yX11_six) (wl := wsX11_six) (fr := 0) (lo := 0) (mc := 0) (ms := 0) (av := [.int 4, .int 21, .int 11, .int 5, .int 0, .int 0]) (ws := []) (cc := cX11_six) (maxL := 7) (ret := (some .int)) (fun A => va_Qi (fun (r : Int32) (u : Unit) => r = 94343) (fun u t => he_post g A ((fun (u : Unit) => []) u) t) A) (by decide) rfl (Nat.le_of_ble_eq_true rfl) ?_
  intro p e s m args below meth c A ls H locs Q hQ hB
  obtain ⟨hx, hb, hr, hml, hown, hts, hlk, hin, hP, hK, hD, hS, hA, hE, hl⟩ := hB
  have hl : lv_has ls 7 [(0, .int 4), (1, .int 21), (2, .int 11), (3, .int 5), (4, .int 0), (5, .int 0)] := hl
  refine lv_bipush (v := 27) hx hb dX11_six_0 (by decide) ?_
  refine lv_bipush (v := 27) hx hb dX11_six_2 (by decide) ?_
  refine lv_bipush (v := 27) hx hb dX11_six_4 (by decide) ?_
  refine lv_iload_n hx hb dX11_six_6 rfl (lv_at hl 0 rfl) ?_
  refine lv_imul hx hb dX11_six_7 ?_
  refine he_top (108) (by decide) ?_
  refine lv_iload_n hx hb dX11_six_8 rfl (lv_at hl 1 rfl) ?_
  refine lv_iadd hx hb dX11_six_9 ?_
  refine he_top (129) (by decide) ?_
  refine lv_imul hx hb dX11_six_10 ?_
  refine he_top (3483) (by decide) ?_
  refine lv_iload_n hx hb dX11_six_11 rfl (lv_at hl 2 rfl) ?_
  refine lv_iadd hx hb dX11_six_12 ?_
  refine he_top (3494) (by decide) ?_
  refine lv_imul hx hb dX11_six_13 ?_
  refine he_top (94338) (by decide) ?_
  refine lv_istore (lv' := [(6, .int 94338), (0, .int 4), (1, .int 21), (2, .int 11), (3, .int 5), (4, .int 0), (5, .int 0)]) hx hb dX11_six_14 hl (by decide) rfl (fun ls hl => ?_)
  refine lv_iload_n hx hb dX11_six_16 rfl (lv_at hl 4 rfl) ?_
  refine lv_if_ne (tgt := 28) hx hb dX11_six_17 (by decide) (fun c_1 => ?_) (fun c_1 => ?_)
  · refine lv_iload hx hb dX11_six_28 (lv_at hl 0 rfl) ?_
    refine lv_iload_n hx hb dX11_six_30 rfl (lv_at hl 4 rfl) ?_
    refine lv_iadd hx hb dX11_six_31 ?_
    refine he_top (94343) (by decide) ?_
    refine lv_istore (lv' := [(6, .int 94343), (0, .int 4), (1, .int 21), (2, .int 11), (3, .int 5), (4, .int 0), (5, .int 0)]) hx hb dX11_six_32 hl (by decide) rfl (fun ls hl => ?_)
    refine lv_iload hx hb dX11_six_34 (lv_at hl 5 rfl) ?_
    refine lv_if_ne (tgt := 44) hx hb dX11_six_36 (by decide) (fun c_2 => ?_) (fun c_2 => ?_)
    · exact absurd (by decide) c_2
    · refine lv_iload hx hb dX11_six_39 (lv_at hl 0 rfl) ?_
      refine lv_goto (tgt := 52) hx hb dX11_six_41 (by decide) ?_
      refine lv_istore (lv' := [(6, .int 94343), (0, .int 4), (1, .int 21), (2, .int 11), (3, .int 5), (4, .int 0), (5, .int 0)]) hx hb dX11_six_52 hl (by decide) rfl (fun ls hl => ?_)
      refine lv_iload hx hb dX11_six_54 (lv_at hl 6 rfl) ?_
      refine lv_if_ne (tgt := 64) hx hb dX11_six_56 (by decide) (fun c_3 => ?_) (fun c_3 => ?_)
      · exact absurd (by decide) c_3
      · refine lv_iload hx hb dX11_six_59 (lv_at hl 0 rfl) ?_
        refine lv_goto (tgt := 72) hx hb dX11_six_61 (by decide) ?_
        exact he_ri hQ hx hb hr hlk hP hD hS dX11_six_72 (Nat.le_of_ble_eq_true rfl) (Nat.le_of_ble_eq_true rfl) (()) (rfl) (rfl)
  · exact absurd c_1 (by decide)
set_option maxHeartbeats 4000000 in
set_option maxRecDepth 100000 in
theorem h_X11_isWord_4_21_11_5_0_0 (l : Launch) (g : he_G) (m0 : Nat) (fd : Nat) (rfm : Nat) (rt_ : Nat) (to_ : Nat) (rw_ : Nat) (wa : Nat) (rk : Nat) (rb : Nat) (cn : Nat) (br : Nat) (sm : Nat) (as_ : Nat) (go : Nat) (sh_ : Nat) (ki : Nat) (tg : Nat) (of_ : Nat) (kp : Nat) (rs : Nat) (ta : Int32) (pl : Int32) (cs : Int32) (ct : Int32) (ir : Int32) (oa : Int32) (ob : Int32) (th : Int32) (ig : Int32) (sp_ : Int32) (sf : Int32) (tw : Int32) (n : Nat) (k : Nat) (fw : Int32) (fb : Nat → Int32) (hn : n ≤ 500) (hk : k ≤ n) : he_I l yX11_isWord wsX11_isWord 3 63 0 0 g [.ref m0, .int 4, .int 21, .int 11, .int 5, .int 0, .int 0] [(oX11 m0 tw ta (nI n) pl (nI k) 0 fw cs fd rfm rt_ to_ rw_ wa ct rk rb cn br sm as_ go sh_ ir oa ob th ig sp_ ki tg of_ kp sf rs), (aI g fd 500 fb)] (fun (r : Int32) (u : Nat) => (r = 0 ∨ r = 1) ∧ k ≤ u ∧ u ≤ n) (fun (u : Nat) => [(oX11 m0 tw ta (nI n) pl (nI u) 0 fw cs fd rfm rt_ to_ rw_ wa ct rk rb cn br sm as_ go sh_ ir oa ob th ig sp_ ki tg of_ kp sf rs), (aI g fd 500 fb)]) := by
  refine he_begin (l := l) (g := g) (y := yX11_isWord) (wl := wsX11_isWord) (fr := 3) (lo := 63) (mc := 0) (ms := 0) (av := [.ref m0, .int 4, .int 21, .int 11, .int 5, .int 0, .int 0]) (ws := [(oX11 m0 tw ta (nI n) pl (nI k) 0 fw cs fd rfm rt_ to_ rw_ wa ct rk rb cn br sm as_ go sh_ ir oa ob th ig sp_ ki tg of_ kp sf rs), (aI g fd 500 fb)]) (cc := cX11_isWord) (maxL := 7) (ret := (some .boolean)) (fun A => va_Qi (fun (r : Int32) (u : Nat) => (r = 0 ∨ r = 1) ∧ k ≤ u ∧ u ≤ n) (fun u t => he_post g A ((fun (u : Nat) => [(oX11 m0 tw ta (nI n) pl (nI u) 0 fw cs fd rfm rt_ to_ rw_ wa ct rk rb cn br sm as_ go sh_ ir oa ob th ig sp_ ki tg of_ kp sf rs), (aI g fd 500 fb)]) u) t) A) (by decide) rfl (Nat.le_of_ble_eq_true rfl) ?_
  intro p e s m args below meth c A ls H locs Q hQ hB
  obtain ⟨hx, hb, hr, hml, hown, hts, hlk, hin, hP, hK, hD, hS, hA, hE, hl⟩ := hB
  have hl : lv_has ls 7 [(0, .ref m0), (1, .int 4), (2, .int 21), (3, .int 11), (4, .int 5), (5, .int 0), (6, .int 0)] := hl
  have f101 := hts (.fieldLink RX11 101 "HiredEnemyModel" "fault" "I") (iwoX11_isWord (k := 0) rfl)
  have inX11 : ∀ w ∈ wsX110, w ∈ wsX11_isWord := innX11_isWord_X11
  refine lv_aload_n hx hb dX11_isWord_0 rfl (lv_at hl 0 rfl) ?_
  refine va_get (v := .int 0) (T := TX11) (N := 35) hx hb hts inX11 hown hK hP 0 rfl rfl 5 (by decide) f101 (fun _ h9 => h9) rfl dX11_isWord_1 ?_
  refine lv_if_ne (tgt := 30) hx hb dX11_isWord_4 (by decide) (fun c_1 => ?_) (fun c_1 => ?_)
  · exact absurd (by decide) c_1
  · refine lv_aload_n hx hb dX11_isWord_7 rfl (lv_at hl 0 rfl) ?_
    refine he_ci (wc := [(oX11 m0 tw ta (nI n) pl (nI k) 0 fw cs fd rfm rt_ to_ rw_ wa ct rk rb cn br sm as_ go sh_ ir oa ob th ig sp_ ki tg of_ kp sf rs), (aI g fd 500 fb)]) (wr := []) (va_runV (As := []) (rest := []) ⟨hx, hb, hml, hown, hts⟩ (h_X11_wordHere l g m0 fd rfm rt_ to_ rw_ wa rk rb cn br sm as_ go sh_ ki tg of_ kp rs ta pl cs ct ir oa ob th ig sp_ sf tw n k 0 fw fb (by first | assumption | decide | omega) (by first | assumption | decide | omega) H.size) (cwV 0 hts gX11_isWord_X11_wordHere rfl rfl rfl (by decide +kernel) ⟨Nat.le_of_ble_eq_true rfl, Nat.le_of_ble_eq_true rfl⟩) (he_preV (wc := [(oX11 m0 tw ta (nI n) pl (nI k) 0 fw cs fd rfm rt_ to_ rw_ wa ct rk rb cn br sm as_ go sh_ ir oa ob th ig sp_ ki tg of_ kp sf rs), (aI g fd 500 fb)]) hK hP hD hS hA hE [0, 1] rfl rfl 0 rfl rfl) rfl rfl hl.1 rfl (lv_room (Nat.le_of_ble_eq_true rfl)) dX11_isWord_8 ⟨(Nat.le_of_ble_eq_true rfl), (Nat.le_of_ble_eq_true rfl)⟩) hP hD hS hA [0, 1] [] rfl rfl rfl (by decide) (fun r_2 u_3 H locs h_4 hP hD hS => ?_)
    obtain ⟨k2_5, rfl⟩ : ∃ z, z = u_3 := ⟨_, rfl⟩
    try dsimp only at h_4
    obtain ⟨hf_6, hf_7⟩ := h_4
    have hP : va_P g.1 vwCl [(oX11 m0 tw ta (nI n) pl (nI k2_5) 0 fw cs fd rfm rt_ to_ rw_ wa ct rk rb cn br sm as_ go sh_ ir oa ob th ig sp_ ki tg of_ kp sf rs), (aI g fd 500 fb)] H := hP
    have hD : va_D A [(oX11 m0 tw ta (nI n) pl (nI k2_5) 0 fw cs fd rfm rt_ to_ rw_ wa ct rk rb cn br sm as_ go sh_ ir oa ob th ig sp_ ki tg of_ kp sf rs), (aI g fd 500 fb)] := hD
    refine lv_iload_n hx hb dX11_isWord_11 rfl (lv_at hl 1 rfl) ?_
    refine lv_iload_n hx hb dX11_isWord_12 rfl (lv_at hl 2 rfl) ?_
    refine lv_iload_n hx hb dX11_isWord_13 rfl (lv_at hl 3 rfl) ?_
    refine lv_iload hx hb dX11_isWord_14 (lv_at hl 4 rfl) ?_
    refine lv_iload hx hb dX11_isWord_16 (lv_at hl 5 rfl) ?_
    refine lv_iload hx hb dX11_isWord_18 (lv_at hl 6 rfl) ?_
    refine he_ci (wc := []) (wr := [(oX11 m0 tw ta (nI n) pl (nI k2_5) 0 fw cs fd rfm rt_ to_ rw_ wa ct rk rb cn br sm as_ go sh_ ir oa ob th ig sp_ ki tg of_ kp sf rs), (aI g fd 500 fb)]) (va_runS (As := [.int 4, .int 21, .int 11, .int 5, .int 0, .int 0]) (rest := [.int r_2]) ⟨hx, hb, hml, hown, hts⟩ (h_X11_six_4_21_11_5_0_0 l g  H.size) (va_cwS 6 hts gX11_isWord_X11_six rfl rfl rfl (by decide +kernel) ⟨Nat.le_of_ble_eq_true rfl, Nat.le_of_ble_eq_true rfl⟩) (he_preS (wc := []) hK hP hD hS hA hE [] rfl rfl) rfl rfl hl.1 rfl (lv_room (Nat.le_of_ble_eq_true rfl)) dX11_isWord_20 ⟨(Nat.le_of_ble_eq_true rfl), (Nat.le_of_ble_eq_true rfl)⟩) hP hD hS hA [] [0, 1] rfl rfl rfl (by decide) (fun r_8 u_9 H locs h_10 hP hD hS => ?_)
    subst h_10
    have hP : va_P g.1 vwCl [(oX11 m0 tw ta (nI n) pl (nI k2_5) 0 fw cs fd rfm rt_ to_ rw_ wa ct rk rb cn br sm as_ go sh_ ir oa ob th ig sp_ ki tg of_ kp sf rs), (aI g fd 500 fb)] H := hP
    have hD : va_D A [(oX11 m0 tw ta (nI n) pl (nI k2_5) 0 fw cs fd rfm rt_ to_ rw_ wa ct rk rb cn br sm as_ go sh_ ir oa ob th ig sp_ ki tg of_ kp sf rs), (aI g fd 500 fb)] := hD
    refine lv_icmp_ne (tgt := 30) hx hb dX11_isWord_23 (by decide) (fun c_11 => ?_) (fun c_11 => ?_)
    · refine lv_iconst (v := 0) hx hb dX11_isWord_30 (by decide) ?_
      exact he_rz hQ hx hb hr hlk hP hD hS dX11_isWord_31 (Nat.le_of_ble_eq_true rfl) (Nat.le_of_ble_eq_true rfl) rfl (k2_5) (rfl) (⟨Or.inl rfl, by omega, by omega⟩)
    · refine lv_iconst (v := 1) hx hb dX11_isWord_26 (by decide) ?_
      refine lv_goto (tgt := 31) hx hb dX11_isWord_27 (by decide) ?_
      exact he_rz hQ hx hb hr hlk hP hD hS dX11_isWord_31 (Nat.le_of_ble_eq_true rfl) (Nat.le_of_ble_eq_true rfl) rfl (k2_5) (rfl) (⟨Or.inr rfl, by omega, by omega⟩)
set_option maxHeartbeats 4000000 in
set_option maxRecDepth 100000 in
theorem h_X11_six_5_14_5_13_25_0 (l : Launch) (g : he_G)   : he_I l yX11_six wsX11_six 0 0 0 0 g [.int 5, .int 14, .int 5, .int 13, .int 25, .int 0] [] (fun (r : Int32) (u : Unit) => r = 2936788) (fun (u : Unit) => []) := by
  refine he_begin (l := l) (g := g) (y := yX11_six) (wl := wsX11_six) (fr := 0) (lo := 0) (mc := 0) (ms := 0) (av := [.int 5, .int 14, .int 5, .int 13, .int 25, .int 0]) (ws := []) (cc := cX11_six) (maxL := 7) (ret := (some .int)) (fun A => va_Qi (fun (r : Int32) (u : Unit) => r = 2936788) (fun u t => he_post g A ((fun (u : Unit) => []) u) t) A) (by decide) rfl (Nat.le_of_ble_eq_true rfl) ?_
  intro p e s m args below meth c A ls H locs Q hQ hB
  obtain ⟨hx, hb, hr, hml, hown, hts, hlk, hin, hP, hK, hD, hS, hA, hE, hl⟩ := hB
  have hl : lv_has ls 7 [(0, .int 5), (1, .int 14), (2, .int 5), (3, .int 13), (4, .int 25), (5, .int 0)] := hl
  refine lv_bipush (v := 27) hx hb dX11_six_0 (by decide) ?_
  refine lv_bipush (v := 27) hx hb dX11_six_2 (by decide) ?_
  refine lv_bipush (v := 27) hx hb dX11_six_4 (by decide) ?_
  refine lv_iload_n hx hb dX11_six_6 rfl (lv_at hl 0 rfl) ?_
  refine lv_imul hx hb dX11_six_7 ?_
  refine he_top (135) (by decide) ?_
  refine lv_iload_n hx hb dX11_six_8 rfl (lv_at hl 1 rfl) ?_
  refine lv_iadd hx hb dX11_six_9 ?_
  refine he_top (149) (by decide) ?_
  refine lv_imul hx hb dX11_six_10 ?_
  refine he_top (4023) (by decide) ?_
  refine lv_iload_n hx hb dX11_six_11 rfl (lv_at hl 2 rfl) ?_
  refine lv_iadd hx hb dX11_six_12 ?_
  refine he_top (4028) (by decide) ?_
  refine lv_imul hx hb dX11_six_13 ?_
  refine he_top (108756) (by decide) ?_
  refine lv_istore (lv' := [(6, .int 108756), (0, .int 5), (1, .int 14), (2, .int 5), (3, .int 13), (4, .int 25), (5, .int 0)]) hx hb dX11_six_14 hl (by decide) rfl (fun ls hl => ?_)
  refine lv_iload_n hx hb dX11_six_16 rfl (lv_at hl 4 rfl) ?_
  refine lv_if_ne (tgt := 28) hx hb dX11_six_17 (by decide) (fun c_1 => ?_) (fun c_1 => ?_)
  · refine lv_iload hx hb dX11_six_28 (lv_at hl 0 rfl) ?_
    refine lv_iload_n hx hb dX11_six_30 rfl (lv_at hl 4 rfl) ?_
    refine lv_iadd hx hb dX11_six_31 ?_
    refine he_top (108769) (by decide) ?_
    refine lv_istore (lv' := [(6, .int 108769), (0, .int 5), (1, .int 14), (2, .int 5), (3, .int 13), (4, .int 25), (5, .int 0)]) hx hb dX11_six_32 hl (by decide) rfl (fun ls hl => ?_)
    refine lv_iload hx hb dX11_six_34 (lv_at hl 5 rfl) ?_
    refine lv_if_ne (tgt := 44) hx hb dX11_six_36 (by decide) (fun c_2 => ?_) (fun c_2 => ?_)
    · refine lv_bipush (v := 27) hx hb dX11_six_44 (by decide) ?_
      refine lv_iload hx hb dX11_six_46 (lv_at hl 0 rfl) ?_
      refine lv_imul hx hb dX11_six_48 ?_
      refine he_top (2936763) (by decide) ?_
      refine lv_iload hx hb dX11_six_49 (lv_at hl 5 rfl) ?_
      refine lv_iadd hx hb dX11_six_51 ?_
      refine he_top (2936788) (by decide) ?_
      refine lv_istore (lv' := [(6, .int 2936788), (0, .int 5), (1, .int 14), (2, .int 5), (3, .int 13), (4, .int 25), (5, .int 0)]) hx hb dX11_six_52 hl (by decide) rfl (fun ls hl => ?_)
      refine lv_iload hx hb dX11_six_54 (lv_at hl 6 rfl) ?_
      refine lv_if_ne (tgt := 64) hx hb dX11_six_56 (by decide) (fun c_3 => ?_) (fun c_3 => ?_)
      · exact absurd (by decide) c_3
      · refine lv_iload hx hb dX11_six_59 (lv_at hl 0 rfl) ?_
        refine lv_goto (tgt := 72) hx hb dX11_six_61 (by decide) ?_
        exact he_ri hQ hx hb hr hlk hP hD hS dX11_six_72 (Nat.le_of_ble_eq_true rfl) (Nat.le_of_ble_eq_true rfl) (()) (rfl) (rfl)
    · exact absurd c_2 (by decide)
  · exact absurd c_1 (by decide)
set_option maxHeartbeats 4000000 in
set_option maxRecDepth 100000 in
theorem h_X11_isWord_5_14_5_13_25_0 (l : Launch) (g : he_G) (m0 : Nat) (fd : Nat) (rfm : Nat) (rt_ : Nat) (to_ : Nat) (rw_ : Nat) (wa : Nat) (rk : Nat) (rb : Nat) (cn : Nat) (br : Nat) (sm : Nat) (as_ : Nat) (go : Nat) (sh_ : Nat) (ki : Nat) (tg : Nat) (of_ : Nat) (kp : Nat) (rs : Nat) (ta : Int32) (pl : Int32) (cs : Int32) (ct : Int32) (ir : Int32) (oa : Int32) (ob : Int32) (th : Int32) (ig : Int32) (sp_ : Int32) (sf : Int32) (tw : Int32) (n : Nat) (k : Nat) (fw : Int32) (fb : Nat → Int32) (hn : n ≤ 500) (hk : k ≤ n) : he_I l yX11_isWord wsX11_isWord 3 63 0 0 g [.ref m0, .int 5, .int 14, .int 5, .int 13, .int 25, .int 0] [(oX11 m0 tw ta (nI n) pl (nI k) 0 fw cs fd rfm rt_ to_ rw_ wa ct rk rb cn br sm as_ go sh_ ir oa ob th ig sp_ ki tg of_ kp sf rs), (aI g fd 500 fb)] (fun (r : Int32) (u : Nat) => (r = 0 ∨ r = 1) ∧ k ≤ u ∧ u ≤ n) (fun (u : Nat) => [(oX11 m0 tw ta (nI n) pl (nI u) 0 fw cs fd rfm rt_ to_ rw_ wa ct rk rb cn br sm as_ go sh_ ir oa ob th ig sp_ ki tg of_ kp sf rs), (aI g fd 500 fb)]) := by
  refine he_begin (l := l) (g := g) (y := yX11_isWord) (wl := wsX11_isWord) (fr := 3) (lo := 63) (mc := 0) (ms := 0) (av := [.ref m0, .int 5, .int 14, .int 5, .int 13, .int 25, .int 0]) (ws := [(oX11 m0 tw ta (nI n) pl (nI k) 0 fw cs fd rfm rt_ to_ rw_ wa ct rk rb cn br sm as_ go sh_ ir oa ob th ig sp_ ki tg of_ kp sf rs), (aI g fd 500 fb)]) (cc := cX11_isWord) (maxL := 7) (ret := (some .boolean)) (fun A => va_Qi (fun (r : Int32) (u : Nat) => (r = 0 ∨ r = 1) ∧ k ≤ u ∧ u ≤ n) (fun u t => he_post g A ((fun (u : Nat) => [(oX11 m0 tw ta (nI n) pl (nI u) 0 fw cs fd rfm rt_ to_ rw_ wa ct rk rb cn br sm as_ go sh_ ir oa ob th ig sp_ ki tg of_ kp sf rs), (aI g fd 500 fb)]) u) t) A) (by decide) rfl (Nat.le_of_ble_eq_true rfl) ?_
  intro p e s m args below meth c A ls H locs Q hQ hB
  obtain ⟨hx, hb, hr, hml, hown, hts, hlk, hin, hP, hK, hD, hS, hA, hE, hl⟩ := hB
  have hl : lv_has ls 7 [(0, .ref m0), (1, .int 5), (2, .int 14), (3, .int 5), (4, .int 13), (5, .int 25), (6, .int 0)] := hl
  have f101 := hts (.fieldLink RX11 101 "HiredEnemyModel" "fault" "I") (iwoX11_isWord (k := 0) rfl)
  have inX11 : ∀ w ∈ wsX110, w ∈ wsX11_isWord := innX11_isWord_X11
  refine lv_aload_n hx hb dX11_isWord_0 rfl (lv_at hl 0 rfl) ?_
  refine va_get (v := .int 0) (T := TX11) (N := 35) hx hb hts inX11 hown hK hP 0 rfl rfl 5 (by decide) f101 (fun _ h9 => h9) rfl dX11_isWord_1 ?_
  refine lv_if_ne (tgt := 30) hx hb dX11_isWord_4 (by decide) (fun c_1 => ?_) (fun c_1 => ?_)
  · exact absurd (by decide) c_1
  · refine lv_aload_n hx hb dX11_isWord_7 rfl (lv_at hl 0 rfl) ?_
    refine he_ci (wc := [(oX11 m0 tw ta (nI n) pl (nI k) 0 fw cs fd rfm rt_ to_ rw_ wa ct rk rb cn br sm as_ go sh_ ir oa ob th ig sp_ ki tg of_ kp sf rs), (aI g fd 500 fb)]) (wr := []) (va_runV (As := []) (rest := []) ⟨hx, hb, hml, hown, hts⟩ (h_X11_wordHere l g m0 fd rfm rt_ to_ rw_ wa rk rb cn br sm as_ go sh_ ki tg of_ kp rs ta pl cs ct ir oa ob th ig sp_ sf tw n k 0 fw fb (by first | assumption | decide | omega) (by first | assumption | decide | omega) H.size) (cwV 0 hts gX11_isWord_X11_wordHere rfl rfl rfl (by decide +kernel) ⟨Nat.le_of_ble_eq_true rfl, Nat.le_of_ble_eq_true rfl⟩) (he_preV (wc := [(oX11 m0 tw ta (nI n) pl (nI k) 0 fw cs fd rfm rt_ to_ rw_ wa ct rk rb cn br sm as_ go sh_ ir oa ob th ig sp_ ki tg of_ kp sf rs), (aI g fd 500 fb)]) hK hP hD hS hA hE [0, 1] rfl rfl 0 rfl rfl) rfl rfl hl.1 rfl (lv_room (Nat.le_of_ble_eq_true rfl)) dX11_isWord_8 ⟨(Nat.le_of_ble_eq_true rfl), (Nat.le_of_ble_eq_true rfl)⟩) hP hD hS hA [0, 1] [] rfl rfl rfl (by decide) (fun r_2 u_3 H locs h_4 hP hD hS => ?_)
    obtain ⟨k2_5, rfl⟩ : ∃ z, z = u_3 := ⟨_, rfl⟩
    try dsimp only at h_4
    obtain ⟨hf_6, hf_7⟩ := h_4
    have hP : va_P g.1 vwCl [(oX11 m0 tw ta (nI n) pl (nI k2_5) 0 fw cs fd rfm rt_ to_ rw_ wa ct rk rb cn br sm as_ go sh_ ir oa ob th ig sp_ ki tg of_ kp sf rs), (aI g fd 500 fb)] H := hP
    have hD : va_D A [(oX11 m0 tw ta (nI n) pl (nI k2_5) 0 fw cs fd rfm rt_ to_ rw_ wa ct rk rb cn br sm as_ go sh_ ir oa ob th ig sp_ ki tg of_ kp sf rs), (aI g fd 500 fb)] := hD
    refine lv_iload_n hx hb dX11_isWord_11 rfl (lv_at hl 1 rfl) ?_
    refine lv_iload_n hx hb dX11_isWord_12 rfl (lv_at hl 2 rfl) ?_
    refine lv_iload_n hx hb dX11_isWord_13 rfl (lv_at hl 3 rfl) ?_
    refine lv_iload hx hb dX11_isWord_14 (lv_at hl 4 rfl) ?_
    refine lv_iload hx hb dX11_isWord_16 (lv_at hl 5 rfl) ?_
    refine lv_iload hx hb dX11_isWord_18 (lv_at hl 6 rfl) ?_
    refine he_ci (wc := []) (wr := [(oX11 m0 tw ta (nI n) pl (nI k2_5) 0 fw cs fd rfm rt_ to_ rw_ wa ct rk rb cn br sm as_ go sh_ ir oa ob th ig sp_ ki tg of_ kp sf rs), (aI g fd 500 fb)]) (va_runS (As := [.int 5, .int 14, .int 5, .int 13, .int 25, .int 0]) (rest := [.int r_2]) ⟨hx, hb, hml, hown, hts⟩ (h_X11_six_5_14_5_13_25_0 l g  H.size) (va_cwS 6 hts gX11_isWord_X11_six rfl rfl rfl (by decide +kernel) ⟨Nat.le_of_ble_eq_true rfl, Nat.le_of_ble_eq_true rfl⟩) (he_preS (wc := []) hK hP hD hS hA hE [] rfl rfl) rfl rfl hl.1 rfl (lv_room (Nat.le_of_ble_eq_true rfl)) dX11_isWord_20 ⟨(Nat.le_of_ble_eq_true rfl), (Nat.le_of_ble_eq_true rfl)⟩) hP hD hS hA [] [0, 1] rfl rfl rfl (by decide) (fun r_8 u_9 H locs h_10 hP hD hS => ?_)
    subst h_10
    have hP : va_P g.1 vwCl [(oX11 m0 tw ta (nI n) pl (nI k2_5) 0 fw cs fd rfm rt_ to_ rw_ wa ct rk rb cn br sm as_ go sh_ ir oa ob th ig sp_ ki tg of_ kp sf rs), (aI g fd 500 fb)] H := hP
    have hD : va_D A [(oX11 m0 tw ta (nI n) pl (nI k2_5) 0 fw cs fd rfm rt_ to_ rw_ wa ct rk rb cn br sm as_ go sh_ ir oa ob th ig sp_ ki tg of_ kp sf rs), (aI g fd 500 fb)] := hD
    refine lv_icmp_ne (tgt := 30) hx hb dX11_isWord_23 (by decide) (fun c_11 => ?_) (fun c_11 => ?_)
    · refine lv_iconst (v := 0) hx hb dX11_isWord_30 (by decide) ?_
      exact he_rz hQ hx hb hr hlk hP hD hS dX11_isWord_31 (Nat.le_of_ble_eq_true rfl) (Nat.le_of_ble_eq_true rfl) rfl (k2_5) (rfl) (⟨Or.inl rfl, by omega, by omega⟩)
    · refine lv_iconst (v := 1) hx hb dX11_isWord_26 (by decide) ?_
      refine lv_goto (tgt := 31) hx hb dX11_isWord_27 (by decide) ?_
      exact he_rz hQ hx hb hr hlk hP hD hS dX11_isWord_31 (Nat.le_of_ble_eq_true rfl) (Nat.le_of_ble_eq_true rfl) rfl (k2_5) (rfl) (⟨Or.inr rfl, by omega, by omega⟩)
set_option maxHeartbeats 4000000 in
set_option maxRecDepth 100000 in
theorem h_X11_six_20_15_23_14_0_0 (l : Launch) (g : he_G)   : he_I l yX11_six wsX11_six 0 0 0 0 g [.int 20, .int 15, .int 23, .int 14, .int 0, .int 0] [] (fun (r : Int32) (u : Unit) => r = 405230) (fun (u : Unit) => []) := by
  refine he_begin (l := l) (g := g) (y := yX11_six) (wl := wsX11_six) (fr := 0) (lo := 0) (mc := 0) (ms := 0) (av := [.int 20, .int 15, .int 23, .int 14, .int 0, .int 0]) (ws := []) (cc := cX11_six) (maxL := 7) (ret := (some .int)) (fun A => va_Qi (fun (r : Int32) (u : Unit) => r = 405230) (fun u t => he_post g A ((fun (u : Unit) => []) u) t) A) (by decide) rfl (Nat.le_of_ble_eq_true rfl) ?_
  intro p e s m args below meth c A ls H locs Q hQ hB
  obtain ⟨hx, hb, hr, hml, hown, hts, hlk, hin, hP, hK, hD, hS, hA, hE, hl⟩ := hB
  have hl : lv_has ls 7 [(0, .int 20), (1, .int 15), (2, .int 23), (3, .int 14), (4, .int 0), (5, .int 0)] := hl
  refine lv_bipush (v := 27) hx hb dX11_six_0 (by decide) ?_
  refine lv_bipush (v := 27) hx hb dX11_six_2 (by decide) ?_
  refine lv_bipush (v := 27) hx hb dX11_six_4 (by decide) ?_
  refine lv_iload_n hx hb dX11_six_6 rfl (lv_at hl 0 rfl) ?_
  refine lv_imul hx hb dX11_six_7 ?_
  refine he_top (540) (by decide) ?_
  refine lv_iload_n hx hb dX11_six_8 rfl (lv_at hl 1 rfl) ?_
  refine lv_iadd hx hb dX11_six_9 ?_
  refine he_top (555) (by decide) ?_
  refine lv_imul hx hb dX11_six_10 ?_
  refine he_top (14985) (by decide) ?_
  refine lv_iload_n hx hb dX11_six_11 rfl (lv_at hl 2 rfl) ?_
  refine lv_iadd hx hb dX11_six_12 ?_
  refine he_top (15008) (by decide) ?_
  refine lv_imul hx hb dX11_six_13 ?_
  refine he_top (405216) (by decide) ?_
  refine lv_istore (lv' := [(6, .int 405216), (0, .int 20), (1, .int 15), (2, .int 23), (3, .int 14), (4, .int 0), (5, .int 0)]) hx hb dX11_six_14 hl (by decide) rfl (fun ls hl => ?_)
  refine lv_iload_n hx hb dX11_six_16 rfl (lv_at hl 4 rfl) ?_
  refine lv_if_ne (tgt := 28) hx hb dX11_six_17 (by decide) (fun c_1 => ?_) (fun c_1 => ?_)
  · refine lv_iload hx hb dX11_six_28 (lv_at hl 0 rfl) ?_
    refine lv_iload_n hx hb dX11_six_30 rfl (lv_at hl 4 rfl) ?_
    refine lv_iadd hx hb dX11_six_31 ?_
    refine he_top (405230) (by decide) ?_
    refine lv_istore (lv' := [(6, .int 405230), (0, .int 20), (1, .int 15), (2, .int 23), (3, .int 14), (4, .int 0), (5, .int 0)]) hx hb dX11_six_32 hl (by decide) rfl (fun ls hl => ?_)
    refine lv_iload hx hb dX11_six_34 (lv_at hl 5 rfl) ?_
    refine lv_if_ne (tgt := 44) hx hb dX11_six_36 (by decide) (fun c_2 => ?_) (fun c_2 => ?_)
    · exact absurd (by decide) c_2
    · refine lv_iload hx hb dX11_six_39 (lv_at hl 0 rfl) ?_
      refine lv_goto (tgt := 52) hx hb dX11_six_41 (by decide) ?_
      refine lv_istore (lv' := [(6, .int 405230), (0, .int 20), (1, .int 15), (2, .int 23), (3, .int 14), (4, .int 0), (5, .int 0)]) hx hb dX11_six_52 hl (by decide) rfl (fun ls hl => ?_)
      refine lv_iload hx hb dX11_six_54 (lv_at hl 6 rfl) ?_
      refine lv_if_ne (tgt := 64) hx hb dX11_six_56 (by decide) (fun c_3 => ?_) (fun c_3 => ?_)
      · exact absurd (by decide) c_3
      · refine lv_iload hx hb dX11_six_59 (lv_at hl 0 rfl) ?_
        refine lv_goto (tgt := 72) hx hb dX11_six_61 (by decide) ?_
        exact he_ri hQ hx hb hr hlk hP hD hS dX11_six_72 (Nat.le_of_ble_eq_true rfl) (Nat.le_of_ble_eq_true rfl) (()) (rfl) (rfl)
  · exact absurd c_1 (by decide)
