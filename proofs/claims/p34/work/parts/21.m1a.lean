section
/-- the byte at k of a text of n bytes -/
def bAt (fb : Nat → Int32) (n k : Nat) : Int32 := if k < n then fb k else -1
theorem bAt_lt {fb : Nat → Int32} {n k : Nat} {x : Int32} (h : bAt fb n k = x) (hx : ¬ x = -1) : k < n := by
  apply Decidable.byContradiction
  intro h9
  rw [bAt, if_neg h9] at h
  exact hx h.symm
theorem bAt_ge {fb : Nat → Int32} {n k : Nat} {x : Int32} (h : x ≤ bAt fb n k) (hx : -1 < x) : k < n := by
  apply Decidable.byContradiction
  intro h9
  rw [bAt, if_neg h9] at h
  exact absurd (Int32.lt_of_lt_of_le hx h) (by decide)
def dgI (x : Int32) : Int32 := if x < 48 then 0 else if 57 < x then 0 else 1
/-- alike but at the rows of one table -/
def mEx (r : Nat → Nat) (N : Nat) (M M2 : Nat → Nat → Int32) : Prop := ∀ a, (∀ i, i < N → a ≠ r i) → M2 a = M a
theorem mEx_refl (r : Nat → Nat) (N : Nat) (M : Nat → Nat → Int32) : mEx r N M M := fun _ _ => rfl
theorem mEx_up {r : Nat → Nat} {N : Nat} {M M2 : Nat → Nat → Int32} (h : mEx r N M M2) {i : Nat} (hi : i < N) (f : Nat → Int32) : mEx r N M (va_up M2 (r i) f) := by
  intro a ha
  unfold va_up
  rw [if_neg (ha i hi)]
  exact h a ha
set_option maxHeartbeats 4000000 in
set_option maxRecDepth 100000 in
theorem h_X11_byteAt (l : Launch) (g : he_G) (m0 : Nat) (fd : Nat) (rfm : Nat) (rt_ : Nat) (to_ : Nat) (rw_ : Nat) (wa : Nat) (rk : Nat) (rb : Nat) (cn : Nat) (br : Nat) (sm : Nat) (as_ : Nat) (go : Nat) (sh_ : Nat) (ki : Nat) (tg : Nat) (of_ : Nat) (kp : Nat) (rs : Nat) (ta : Int32) (pl : Int32) (cs : Int32) (ct : Int32) (ir : Int32) (oa : Int32) (ob : Int32) (th : Int32) (ig : Int32) (sp_ : Int32) (sf : Int32) (tw : Int32) (n : Nat) (k : Nat) (fa : Int32) (fw : Int32) (fb : Nat → Int32) (j : Nat) (hn : n ≤ 500) (hj : j < 2147483648) : he_I l yX11_byteAt wsX11_byteAt 0 0 0 0 g [.ref m0, .int (nI j)] [(oX11 m0 tw ta (nI n) pl (nI k) fa fw cs fd rfm rt_ to_ rw_ wa ct rk rb cn br sm as_ go sh_ ir oa ob th ig sp_ ki tg of_ kp sf rs), (aI g fd 500 fb)] (fun (r : Int32) (u : Unit) => r = bAt fb n j) (fun (u : Unit) => [(oX11 m0 tw ta (nI n) pl (nI k) fa fw cs fd rfm rt_ to_ rw_ wa ct rk rb cn br sm as_ go sh_ ir oa ob th ig sp_ ki tg of_ kp sf rs), (aI g fd 500 fb)]) := by
  refine he_begin (l := l) (g := g) (y := yX11_byteAt) (wl := wsX11_byteAt) (fr := 0) (lo := 0) (mc := 0) (ms := 0) (av := [.ref m0, .int (nI j)]) (ws := [(oX11 m0 tw ta (nI n) pl (nI k) fa fw cs fd rfm rt_ to_ rw_ wa ct rk rb cn br sm as_ go sh_ ir oa ob th ig sp_ ki tg of_ kp sf rs), (aI g fd 500 fb)]) (cc := cX11_byteAt) (maxL := 2) (ret := (some .int)) (fun A => va_Qi (fun (r : Int32) (u : Unit) => r = bAt fb n j) (fun u t => he_post g A ((fun (u : Unit) => [(oX11 m0 tw ta (nI n) pl (nI k) fa fw cs fd rfm rt_ to_ rw_ wa ct rk rb cn br sm as_ go sh_ ir oa ob th ig sp_ ki tg of_ kp sf rs), (aI g fd 500 fb)]) u) t) A) (by decide) rfl (Nat.le_of_ble_eq_true rfl) ?_
  intro p e s m args below meth c A ls H locs Q hQ hB
  obtain ⟨hx, hb, hr, hml, hown, hts, hlk, hin, hP, hK, hD, hS, hA, hE, hl⟩ := hB
  have hl : lv_has ls 2 [(0, .ref m0), (1, .int (nI j))] := hl
  have f91 := hts (.fieldLink RX11 91 "HiredEnemyModel" "size" "I") (iwoX11_byteAt (k := 0) rfl)
  have inX11 : ∀ w ∈ wsX110, w ∈ wsX11_byteAt := innX11_byteAt_X11
  have f13 := hts (.fieldLink RX11 13 "HiredEnemyModel" "fed" "[I") (iwoX11_byteAt (k := 1) rfl)
  refine lv_iload_n hx hb dX11_byteAt_0 rfl (lv_at hl 1 rfl) ?_
  refine lv_aload_n hx hb dX11_byteAt_1 rfl (lv_at hl 0 rfl) ?_
  refine va_get (v := .int (nI n)) (T := TX11) (N := 35) hx hb hts inX11 hown hK hP 0 rfl rfl 2 (by decide) f91 (fun _ h9 => h9) rfl dX11_byteAt_2 ?_
  refine lv_icmp_lt (tgt := 12) hx hb dX11_byteAt_5 (by decide) (fun c_1 => ?_) (fun c_1 => ?_)
  · have k_2 : j < n := (he_clt (a := j) (b := n) rfl rfl (by omega) (by omega)).mp c_1
    refine lv_aload_n hx hb dX11_byteAt_12 rfl (lv_at hl 0 rfl) ?_
    refine va_get (v := .ref fd) (T := TX11) (N := 35) hx hb hts inX11 hown hK hP 0 rfl rfl 8 (by decide) f13 (fun _ h9 => h9) rfl dX11_byteAt_13 ?_
    refine lv_iload_n hx hb dX11_byteAt_16 rfl (lv_at hl 1 rfl) ?_
    refine he_iald hx hb hK hP 1 rfl (j) rfl (by first | assumption | decide | omega) (by first | decide | assumption) (fb j) rfl dX11_byteAt_17 ?_
    exact he_ri hQ hx hb hr hlk hP hD hS dX11_byteAt_18 (Nat.le_of_ble_eq_true rfl) (Nat.le_of_ble_eq_true rfl) (()) (rfl) ((by rw [bAt, if_pos (by omega)]))
  · have k_3 : ¬ (j < n) := fun h9 => c_1 ((he_clt (a := j) (b := n) rfl rfl (by omega) (by omega)).mpr h9)
    refine lv_iconst (v := (-1)) hx hb dX11_byteAt_8 (by decide) ?_
    refine lv_goto (tgt := 18) hx hb dX11_byteAt_9 (by decide) ?_
    exact he_ri hQ hx hb hr hlk hP hD hS dX11_byteAt_18 (Nat.le_of_ble_eq_true rfl) (Nat.le_of_ble_eq_true rfl) (()) (rfl) ((by rw [bAt, if_neg (by omega)]))
set_option maxHeartbeats 4000000 in
set_option maxRecDepth 100000 in
theorem h_X11_isDigit (l : Launch) (g : he_G) (x : Int32)  : he_I l yX11_isDigit wsX11_isDigit 0 0 0 0 g [.int x] [] (fun (r : Int32) (u : Unit) => r = dgI x) (fun (u : Unit) => []) := by
  refine he_begin (l := l) (g := g) (y := yX11_isDigit) (wl := wsX11_isDigit) (fr := 0) (lo := 0) (mc := 0) (ms := 0) (av := [.int x]) (ws := []) (cc := cX11_isDigit) (maxL := 1) (ret := (some .boolean)) (fun A => va_Qi (fun (r : Int32) (u : Unit) => r = dgI x) (fun u t => he_post g A ((fun (u : Unit) => []) u) t) A) (by decide) rfl (Nat.le_of_ble_eq_true rfl) ?_
  intro p e s m args below meth c A ls H locs Q hQ hB
  obtain ⟨hx, hb, hr, hml, hown, hts, hlk, hin, hP, hK, hD, hS, hA, hE, hl⟩ := hB
  have hl : lv_has ls 1 [(0, .int x)] := hl
  refine lv_iload_n hx hb dX11_isDigit_0 rfl (lv_at hl 0 rfl) ?_
  refine lv_bipush (v := 48) hx hb dX11_isDigit_1 (by decide) ?_
  refine lv_icmp_lt (tgt := 16) hx hb dX11_isDigit_3 (by decide) (fun c_1 => ?_) (fun c_1 => ?_)
  · refine lv_iconst (v := 0) hx hb dX11_isDigit_16 (by decide) ?_
    exact he_rz hQ hx hb hr hlk hP hD hS dX11_isDigit_17 (Nat.le_of_ble_eq_true rfl) (Nat.le_of_ble_eq_true rfl) rfl (()) (rfl) (by simp [dgI, c_1])
  · refine lv_iload_n hx hb dX11_isDigit_6 rfl (lv_at hl 0 rfl) ?_
    refine lv_bipush (v := 57) hx hb dX11_isDigit_7 (by decide) ?_
    refine lv_icmp_gt (tgt := 16) hx hb dX11_isDigit_9 (by decide) (fun c_2 => ?_) (fun c_2 => ?_)
    · refine lv_iconst (v := 0) hx hb dX11_isDigit_16 (by decide) ?_
      exact he_rz hQ hx hb hr hlk hP hD hS dX11_isDigit_17 (Nat.le_of_ble_eq_true rfl) (Nat.le_of_ble_eq_true rfl) rfl (()) (rfl) (by simp [dgI, c_1, c_2])
    · refine lv_iconst (v := 1) hx hb dX11_isDigit_12 (by decide) ?_
      refine lv_goto (tgt := 17) hx hb dX11_isDigit_13 (by decide) ?_
      exact he_rz hQ hx hb hr hlk hP hD hS dX11_isDigit_17 (Nat.le_of_ble_eq_true rfl) (Nat.le_of_ble_eq_true rfl) rfl (()) (rfl) (by simp [dgI, c_1, c_2])
set_option maxHeartbeats 4000000 in
set_option maxRecDepth 100000 in
theorem h_X11_six_23_1_12_12_0_0 (l : Launch) (g : he_G)   : he_I l yX11_six wsX11_six 0 0 0 0 g [.int 23, .int 1, .int 12, .int 12, .int 0, .int 0] [] (fun (r : Int32) (u : Unit) => r = 453774) (fun (u : Unit) => []) := by
  refine he_begin (l := l) (g := g) (y := yX11_six) (wl := wsX11_six) (fr := 0) (lo := 0) (mc := 0) (ms := 0) (av := [.int 23, .int 1, .int 12, .int 12, .int 0, .int 0]) (ws := []) (cc := cX11_six) (maxL := 7) (ret := (some .int)) (fun A => va_Qi (fun (r : Int32) (u : Unit) => r = 453774) (fun u t => he_post g A ((fun (u : Unit) => []) u) t) A) (by decide) rfl (Nat.le_of_ble_eq_true rfl) ?_
  intro p e s m args below meth c A ls H locs Q hQ hB
  obtain ⟨hx, hb, hr, hml, hown, hts, hlk, hin, hP, hK, hD, hS, hA, hE, hl⟩ := hB
  have hl : lv_has ls 7 [(0, .int 23), (1, .int 1), (2, .int 12), (3, .int 12), (4, .int 0), (5, .int 0)] := hl
  refine lv_bipush (v := 27) hx hb dX11_six_0 (by decide) ?_
  refine lv_bipush (v := 27) hx hb dX11_six_2 (by decide) ?_
  refine lv_bipush (v := 27) hx hb dX11_six_4 (by decide) ?_
  refine lv_iload_n hx hb dX11_six_6 rfl (lv_at hl 0 rfl) ?_
  refine lv_imul hx hb dX11_six_7 ?_
  refine he_top (621) (by decide) ?_
  refine lv_iload_n hx hb dX11_six_8 rfl (lv_at hl 1 rfl) ?_
  refine lv_iadd hx hb dX11_six_9 ?_
  refine he_top (622) (by decide) ?_
  refine lv_imul hx hb dX11_six_10 ?_
  refine he_top (16794) (by decide) ?_
  refine lv_iload_n hx hb dX11_six_11 rfl (lv_at hl 2 rfl) ?_
  refine lv_iadd hx hb dX11_six_12 ?_
  refine he_top (16806) (by decide) ?_
  refine lv_imul hx hb dX11_six_13 ?_
  refine he_top (453762) (by decide) ?_
  refine lv_istore (lv' := [(6, .int 453762), (0, .int 23), (1, .int 1), (2, .int 12), (3, .int 12), (4, .int 0), (5, .int 0)]) hx hb dX11_six_14 hl (by decide) rfl (fun ls hl => ?_)
  refine lv_iload_n hx hb dX11_six_16 rfl (lv_at hl 4 rfl) ?_
  refine lv_if_ne (tgt := 28) hx hb dX11_six_17 (by decide) (fun c_1 => ?_) (fun c_1 => ?_)
  · refine lv_iload hx hb dX11_six_28 (lv_at hl 0 rfl) ?_
    refine lv_iload_n hx hb dX11_six_30 rfl (lv_at hl 4 rfl) ?_
    refine lv_iadd hx hb dX11_six_31 ?_
    refine he_top (453774) (by decide) ?_
    refine lv_istore (lv' := [(6, .int 453774), (0, .int 23), (1, .int 1), (2, .int 12), (3, .int 12), (4, .int 0), (5, .int 0)]) hx hb dX11_six_32 hl (by decide) rfl (fun ls hl => ?_)
    refine lv_iload hx hb dX11_six_34 (lv_at hl 5 rfl) ?_
    refine lv_if_ne (tgt := 44) hx hb dX11_six_36 (by decide) (fun c_2 => ?_) (fun c_2 => ?_)
    · exact absurd (by decide) c_2
    · refine lv_iload hx hb dX11_six_39 (lv_at hl 0 rfl) ?_
      refine lv_goto (tgt := 52) hx hb dX11_six_41 (by decide) ?_
      refine lv_istore (lv' := [(6, .int 453774), (0, .int 23), (1, .int 1), (2, .int 12), (3, .int 12), (4, .int 0), (5, .int 0)]) hx hb dX11_six_52 hl (by decide) rfl (fun ls hl => ?_)
      refine lv_iload hx hb dX11_six_54 (lv_at hl 6 rfl) ?_
      refine lv_if_ne (tgt := 64) hx hb dX11_six_56 (by decide) (fun c_3 => ?_) (fun c_3 => ?_)
      · exact absurd (by decide) c_3
      · refine lv_iload hx hb dX11_six_59 (lv_at hl 0 rfl) ?_
        refine lv_goto (tgt := 72) hx hb dX11_six_61 (by decide) ?_
        exact he_ri hQ hx hb hr hlk hP hD hS dX11_six_72 (Nat.le_of_ble_eq_true rfl) (Nat.le_of_ble_eq_true rfl) (()) (rfl) (rfl)
  · exact absurd c_1 (by decide)
set_option maxHeartbeats 4000000 in
set_option maxRecDepth 100000 in
theorem h_X11_six_4_21_11_5_0_0 (l : Launch) (g : he_G)   : he_I l yX11_six wsX11_six 0 0 0 0 g [.int 4, .int 21, .int 11, .int 5, .int 0, .int 0] [] (fun (r : Int32) (u : Unit) => r = 94343) (fun (u : Unit) => []) := by
  refine he_begin (l := l) (g := g) (y := yX11_six) (wl := wsX11_six) (fr := 0) (lo := 0) (mc := 0) (ms := 0) (av := [.int 4, .int 21, .int 11, .int 5, .int 0, .int 0]) (ws := []) (cc := cX11_six) (maxL := 7) (ret := (some .int)) (fun A => va_Qi (fun (r : Int32) (u : Unit) => r = 94343) (fun u t => he_post g A ((fun (u : Unit) => []) u) t) A) (by decide) rfl (Nat.le_of_ble_eq_true rfl) ?_
  intro p e s m args below meth c A ls H locs Q hQ hB
  obtain ⟨hx, hb, hr, hml, hown, hts, hlk, hin, hP, hK, hD, hS, hA, hE, hl⟩ := hB
  have hl : lv_has ls 7 [(0, .int 4), (1, .int 21), (2, .int 11), (3, .int 5), (4, .int 0), (5, .int 0)] := hl
  refine lv_bipush (v := 27) hx hb dX11_six_0 (by decide) ?_
  refine lv_bipush (v := 27) hx hb dX11_six_2 (by decide) ?_
  refine lv_bipush (v := 27) hx hb dX11_six_4 (by decide) ?_
  refine lv_iload_n hx hb dX11_six_6 rfl (lv_at hl 0 rfl) ?_
  refine lv_imul hx hb dX11_six_7 ?_
  refine he_top (108) (by decide) ?_
  refine lv_iload_n hx hb dX11_six_8 rfl (lv_at hl 1 rfl) ?_
  refine lv_iadd hx hb dX11_six_9 ?_
  refine he_top (129) (by decide) ?_
  refine lv_imul hx hb dX11_six_10 ?_
  refine he_top (3483) (by decide) ?_
  refine lv_iload_n hx hb dX11_six_11 rfl (lv_at hl 2 rfl) ?_
  refine lv_iadd hx hb dX11_six_12 ?_
  refine he_top (3494) (by decide) ?_
  refine lv_imul hx hb dX11_six_13 ?_
  refine he_top (94338) (by decide) ?_
  refine lv_istore (lv' := [(6, .int 94338), (0, .int 4), (1, .int 21), (2, .int 11), (3, .int 5), (4, .int 0), (5, .int 0)]) hx hb dX11_six_14 hl (by decide) rfl (fun ls hl => ?_)
  refine lv_iload_n hx hb dX11_six_16 rfl (lv_at hl 4 rfl) ?_
  refine lv_if_ne (tgt := 28) hx hb dX11_six_17 (by decide) (fun c_1 => ?_) (fun c_1 => ?_)
  · refine lv_iload hx hb dX11_six_28 (lv_at hl 0 rfl) ?_
    refine lv_iload_n hx hb dX11_six_30 rfl (lv_at hl 4 rfl) ?_
    refine lv_iadd hx hb dX11_six_31 ?_
    refine he_top (94343) (by decide) ?_
    refine lv_istore (lv' := [(6, .int 94343), (0, .int 4), (1, .int 21), (2, .int 11), (3, .int 5), (4, .int 0), (5, .int 0)]) hx hb dX11_six_32 hl (by decide) rfl (fun ls hl => ?_)
    refine lv_iload hx hb dX11_six_34 (lv_at hl 5 rfl) ?_
    refine lv_if_ne (tgt := 44) hx hb dX11_six_36 (by decide) (fun c_2 => ?_) (fun c_2 => ?_)
    · exact absurd (by decide) c_2
    · refine lv_iload hx hb dX11_six_39 (lv_at hl 0 rfl) ?_
      refine lv_goto (tgt := 52) hx hb dX11_six_41 (by decide) ?_
      refine lv_istore (lv' := [(6, .int 94343), (0, .int 4), (1, .int 21), (2, .int 11), (3, .int 5), (4, .int 0), (5, .int 0)]) hx hb dX11_six_52 hl (by decide) rfl (fun ls hl => ?_)
      refine lv_iload hx hb dX11_six_54 (lv_at hl 6 rfl) ?_
      refine lv_if_ne (tgt := 64) hx hb dX11_six_56 (by decide) (fun c_3 => ?_) (fun c_3 => ?_)
      · exact absurd (by decide) c_3
      · refine lv_iload hx hb dX11_six_59 (lv_at hl 0 rfl) ?_
        refine lv_goto (tgt := 72) hx hb dX11_six_61 (by decide) ?_
        exact he_ri hQ hx hb hr hlk hP hD hS dX11_six_72 (Nat.le_of_ble_eq_true rfl) (Nat.le_of_ble_eq_true rfl) (()) (rfl) (rfl)
  · exact absurd c_1 (by decide)
set_option maxHeartbeats 4000000 in
set_option maxRecDepth 100000 in
theorem h_X11_six_5_14_5_13_25_0 (l : Launch) (g : he_G)   : he_I l yX11_six wsX11_six 0 0 0 0 g [.int 5, .int 14, .int 5, .int 13, .int 25, .int 0] [] (fun (r : Int32) (u : Unit) => r = 2936788) (fun (u : Unit) => []) := by
  refine he_begin (l := l) (g := g) (y := yX11_six) (wl := wsX11_six) (fr := 0) (lo := 0) (mc := 0) (ms := 0) (av := [.int 5, .int 14, .int 5, .int 13, .int 25, .int 0]) (ws := []) (cc := cX11_six) (maxL := 7) (ret := (some .int)) (fun A => va_Qi (fun (r : Int32) (u : Unit) => r = 2936788) (fun u t => he_post g A ((fun (u : Unit) => []) u) t) A) (by decide) rfl (Nat.le_of_ble_eq_true rfl) ?_
  intro p e s m args below meth c A ls H locs Q hQ hB
  obtain ⟨hx, hb, hr, hml, hown, hts, hlk, hin, hP, hK, hD, hS, hA, hE, hl⟩ := hB
  have hl : lv_has ls 7 [(0, .int 5), (1, .int 14), (2, .int 5), (3, .int 13), (4, .int 25), (5, .int 0)] := hl
  refine lv_bipush (v := 27) hx hb dX11_six_0 (by decide) ?_
  refine lv_bipush (v := 27) hx hb dX11_six_2 (by decide) ?_
  refine lv_bipush (v := 27) hx hb dX11_six_4 (by decide) ?_
  refine lv_iload_n hx hb dX11_six_6 rfl (lv_at hl 0 rfl) ?_
  refine lv_imul hx hb dX11_six_7 ?_
  refine he_top (135) (by decide) ?_
  refine lv_iload_n hx hb dX11_six_8 rfl (lv_at hl 1 rfl) ?_
  refine lv_iadd hx hb dX11_six_9 ?_
  refine he_top (149) (by decide) ?_
  refine lv_imul hx hb dX11_six_10 ?_
  refine he_top (4023) (by decide) ?_
  refine lv_iload_n hx hb dX11_six_11 rfl (lv_at hl 2 rfl) ?_
  refine lv_iadd hx hb dX11_six_12 ?_
  refine he_top (4028) (by decide) ?_
  refine lv_imul hx hb dX11_six_13 ?_
  refine he_top (108756) (by decide) ?_
  refine lv_istore (lv' := [(6, .int 108756), (0, .int 5), (1, .int 14), (2, .int 5), (3, .int 13), (4, .int 25), (5, .int 0)]) hx hb dX11_six_14 hl (by decide) rfl (fun ls hl => ?_)
  refine lv_iload_n hx hb dX11_six_16 rfl (lv_at hl 4 rfl) ?_
  refine lv_if_ne (tgt := 28) hx hb dX11_six_17 (by decide) (fun c_1 => ?_) (fun c_1 => ?_)
  · refine lv_iload hx hb dX11_six_28 (lv_at hl 0 rfl) ?_
    refine lv_iload_n hx hb dX11_six_30 rfl (lv_at hl 4 rfl) ?_
    refine lv_iadd hx hb dX11_six_31 ?_
    refine he_top (108769) (by decide) ?_
    refine lv_istore (lv' := [(6, .int 108769), (0, .int 5), (1, .int 14), (2, .int 5), (3, .int 13), (4, .int 25), (5, .int 0)]) hx hb dX11_six_32 hl (by decide) rfl (fun ls hl => ?_)
    refine lv_iload hx hb dX11_six_34 (lv_at hl 5 rfl) ?_
    refine lv_if_ne (tgt := 44) hx hb dX11_six_36 (by decide) (fun c_2 => ?_) (fun c_2 => ?_)
    · refine lv_bipush (v := 27) hx hb dX11_six_44 (by decide) ?_
      refine lv_iload hx hb dX11_six_46 (lv_at hl 0 rfl) ?_
      refine lv_imul hx hb dX11_six_48 ?_
      refine he_top (2936763) (by decide) ?_
      refine lv_iload hx hb dX11_six_49 (lv_at hl 5 rfl) ?_
      refine lv_iadd hx hb dX11_six_51 ?_
      refine he_top (2936788) (by decide) ?_
      refine lv_istore (lv' := [(6, .int 2936788), (0, .int 5), (1, .int 14), (2, .int 5), (3, .int 13), (4, .int 25), (5, .int 0)]) hx hb dX11_six_52 hl (by decide) rfl (fun ls hl => ?_)
      refine lv_iload hx hb dX11_six_54 (lv_at hl 6 rfl) ?_
      refine lv_if_ne (tgt := 64) hx hb dX11_six_56 (by decide) (fun c_3 => ?_) (fun c_3 => ?_)
      · exact absurd (by decide) c_3
      · refine lv_iload hx hb dX11_six_59 (lv_at hl 0 rfl) ?_
        refine lv_goto (tgt := 72) hx hb dX11_six_61 (by decide) ?_
        exact he_ri hQ hx hb hr hlk hP hD hS dX11_six_72 (Nat.le_of_ble_eq_true rfl) (Nat.le_of_ble_eq_true rfl) (()) (rfl) (rfl)
    · exact absurd c_2 (by decide)
  · exact absurd c_1 (by decide)
set_option maxHeartbeats 4000000 in
set_option maxRecDepth 100000 in
theorem h_X11_six_20_15_23_14_0_0 (l : Launch) (g : he_G)   : he_I l yX11_six wsX11_six 0 0 0 0 g [.int 20, .int 15, .int 23, .int 14, .int 0, .int 0] [] (fun (r : Int32) (u : Unit) => r = 405230) (fun (u : Unit) => []) := by
  refine he_begin (l := l) (g := g) (y := yX11_six) (wl := wsX11_six) (fr := 0) (lo := 0) (mc := 0) (ms := 0) (av := [.int 20, .int 15, .int 23, .int 14, .int 0, .int 0]) (ws := []) (cc := cX11_six) (maxL := 7) (ret := (some .int)) (fun A => va_Qi (fun (r : Int32) (u : Unit) => r = 405230) (fun u t => he_post g A ((fun (u : Unit) => []) u) t) A) (by decide) rfl (Nat.le_of_ble_eq_true rfl) ?_
  intro p e s m args below meth c A ls H locs Q hQ hB
  obtain ⟨hx, hb, hr, hml, hown, hts, hlk, hin, hP, hK, hD, hS, hA, hE, hl⟩ := hB
  have hl : lv_has ls 7 [(0, .int 20), (1, .int 15), (2, .int 23), (3, .int 14), (4, .int 0), (5, .int 0)] := hl
  refine lv_bipush (v := 27) hx hb dX11_six_0 (by decide) ?_
  refine lv_bipush (v := 27) hx hb dX11_six_2 (by decide) ?_
  refine lv_bipush (v := 27) hx hb dX11_six_4 (by decide) ?_
  refine lv_iload_n hx hb dX11_six_6 rfl (lv_at hl 0 rfl) ?_
  refine lv_imul hx hb dX11_six_7 ?_
  refine he_top (540) (by decide) ?_
  refine lv_iload_n hx hb dX11_six_8 rfl (lv_at hl 1 rfl) ?_
  refine lv_iadd hx hb dX11_six_9 ?_
  refine he_top (555) (by decide) ?_
  refine lv_imul hx hb dX11_six_10 ?_
  refine he_top (14985) (by decide) ?_
  refine lv_iload_n hx hb dX11_six_11 rfl (lv_at hl 2 rfl) ?_
  refine lv_iadd hx hb dX11_six_12 ?_
  refine he_top (15008) (by decide) ?_
  refine lv_imul hx hb dX11_six_13 ?_
  refine he_top (405216) (by decide) ?_
  refine lv_istore (lv' := [(6, .int 405216), (0, .int 20), (1, .int 15), (2, .int 23), (3, .int 14), (4, .int 0), (5, .int 0)]) hx hb dX11_six_14 hl (by decide) rfl (fun ls hl => ?_)
  refine lv_iload_n hx hb dX11_six_16 rfl (lv_at hl 4 rfl) ?_
  refine lv_if_ne (tgt := 28) hx hb dX11_six_17 (by decide) (fun c_1 => ?_) (fun c_1 => ?_)
  · refine lv_iload hx hb dX11_six_28 (lv_at hl 0 rfl) ?_
    refine lv_iload_n hx hb dX11_six_30 rfl (lv_at hl 4 rfl) ?_
    refine lv_iadd hx hb dX11_six_31 ?_
    refine he_top (405230) (by decide) ?_
    refine lv_istore (lv' := [(6, .int 405230), (0, .int 20), (1, .int 15), (2, .int 23), (3, .int 14), (4, .int 0), (5, .int 0)]) hx hb dX11_six_32 hl (by decide) rfl (fun ls hl => ?_)
    refine lv_iload hx hb dX11_six_34 (lv_at hl 5 rfl) ?_
    refine lv_if_ne (tgt := 44) hx hb dX11_six_36 (by decide) (fun c_2 => ?_) (fun c_2 => ?_)
    · exact absurd (by decide) c_2
    · refine lv_iload hx hb dX11_six_39 (lv_at hl 0 rfl) ?_
      refine lv_goto (tgt := 52) hx hb dX11_six_41 (by decide) ?_
      refine lv_istore (lv' := [(6, .int 405230), (0, .int 20), (1, .int 15), (2, .int 23), (3, .int 14), (4, .int 0), (5, .int 0)]) hx hb dX11_six_52 hl (by decide) rfl (fun ls hl => ?_)
      refine lv_iload hx hb dX11_six_54 (lv_at hl 6 rfl) ?_
      refine lv_if_ne (tgt := 64) hx hb dX11_six_56 (by decide) (fun c_3 => ?_) (fun c_3 => ?_)
      · exact absurd (by decide) c_3
      · refine lv_iload hx hb dX11_six_59 (lv_at hl 0 rfl) ?_
        refine lv_goto (tgt := 72) hx hb dX11_six_61 (by decide) ?_
        exact he_ri hQ hx hb hr hlk hP hD hS dX11_six_72 (Nat.le_of_ble_eq_true rfl) (Nat.le_of_ble_eq_true rfl) (()) (rfl) (rfl)
  · exact absurd c_1 (by decide)
end
section
set_option maxHeartbeats 4000000 in
set_option maxRecDepth 100000 in
theorem h_X11_six_6_5_1_18_0_0 (l : Launch) (g : he_G)   : he_I l yX11_six wsX11_six 0 0 0 0 g [.int 6, .int 5, .int 1, .int 18, .int 0, .int 0] [] (fun (r : Int32) (u : Unit) => r = 121788) (fun (u : Unit) => []) := by
  refine he_begin (l := l) (g := g) (y := yX11_six) (wl := wsX11_six) (fr := 0) (lo := 0) (mc := 0) (ms := 0) (av := [.int 6, .int 5, .int 1, .int 18, .int 0, .int 0]) (ws := []) (cc := cX11_six) (maxL := 7) (ret := (some .int)) (fun A => va_Qi (fun (r : Int32) (u : Unit) => r = 121788) (fun u t => he_post g A ((fun (u : Unit) => []) u) t) A) (by decide) rfl (Nat.le_of_ble_eq_true rfl) ?_
  intro p e s m args below meth c A ls H locs Q hQ hB
  obtain ⟨hx, hb, hr, hml, hown, hts, hlk, hin, hP, hK, hD, hS, hA, hE, hl⟩ := hB
  have hl : lv_has ls 7 [(0, .int 6), (1, .int 5), (2, .int 1), (3, .int 18), (4, .int 0), (5, .int 0)] := hl
  refine lv_bipush (v := 27) hx hb dX11_six_0 (by decide) ?_
  refine lv_bipush (v := 27) hx hb dX11_six_2 (by decide) ?_
  refine lv_bipush (v := 27) hx hb dX11_six_4 (by decide) ?_
  refine lv_iload_n hx hb dX11_six_6 rfl (lv_at hl 0 rfl) ?_
  refine lv_imul hx hb dX11_six_7 ?_
  refine he_top (162) (by decide) ?_
  refine lv_iload_n hx hb dX11_six_8 rfl (lv_at hl 1 rfl) ?_
  refine lv_iadd hx hb dX11_six_9 ?_
  refine he_top (167) (by decide) ?_
  refine lv_imul hx hb dX11_six_10 ?_
  refine he_top (4509) (by decide) ?_
  refine lv_iload_n hx hb dX11_six_11 rfl (lv_at hl 2 rfl) ?_
  refine lv_iadd hx hb dX11_six_12 ?_
  refine he_top (4510) (by decide) ?_
  refine lv_imul hx hb dX11_six_13 ?_
  refine he_top (121770) (by decide) ?_
  refine lv_istore (lv' := [(6, .int 121770), (0, .int 6), (1, .int 5), (2, .int 1), (3, .int 18), (4, .int 0), (5, .int 0)]) hx hb dX11_six_14 hl (by decide) rfl (fun ls hl => ?_)
  refine lv_iload_n hx hb dX11_six_16 rfl (lv_at hl 4 rfl) ?_
  refine lv_if_ne (tgt := 28) hx hb dX11_six_17 (by decide) (fun c_1 => ?_) (fun c_1 => ?_)
  · refine lv_iload hx hb dX11_six_28 (lv_at hl 0 rfl) ?_
    refine lv_iload_n hx hb dX11_six_30 rfl (lv_at hl 4 rfl) ?_
    refine lv_iadd hx hb dX11_six_31 ?_
    refine he_top (121788) (by decide) ?_
    refine lv_istore (lv' := [(6, .int 121788), (0, .int 6), (1, .int 5), (2, .int 1), (3, .int 18), (4, .int 0), (5, .int 0)]) hx hb dX11_six_32 hl (by decide) rfl (fun ls hl => ?_)
    refine lv_iload hx hb dX11_six_34 (lv_at hl 5 rfl) ?_
    refine lv_if_ne (tgt := 44) hx hb dX11_six_36 (by decide) (fun c_2 => ?_) (fun c_2 => ?_)
    · exact absurd (by decide) c_2
    · refine lv_iload hx hb dX11_six_39 (lv_at hl 0 rfl) ?_
      refine lv_goto (tgt := 52) hx hb dX11_six_41 (by decide) ?_
      refine lv_istore (lv' := [(6, .int 121788), (0, .int 6), (1, .int 5), (2, .int 1), (3, .int 18), (4, .int 0), (5, .int 0)]) hx hb dX11_six_52 hl (by decide) rfl (fun ls hl => ?_)
      refine lv_iload hx hb dX11_six_54 (lv_at hl 6 rfl) ?_
      refine lv_if_ne (tgt := 64) hx hb dX11_six_56 (by decide) (fun c_3 => ?_) (fun c_3 => ?_)
      · exact absurd (by decide) c_3
      · refine lv_iload hx hb dX11_six_59 (lv_at hl 0 rfl) ?_
        refine lv_goto (tgt := 72) hx hb dX11_six_61 (by decide) ?_
        exact he_ri hQ hx hb hr hlk hP hD hS dX11_six_72 (Nat.le_of_ble_eq_true rfl) (Nat.le_of_ble_eq_true rfl) (()) (rfl) (rfl)
  · exact absurd c_1 (by decide)
set_option maxHeartbeats 4000000 in
set_option maxRecDepth 100000 in
theorem h_X11_six_13_1_19_15_14_0 (l : Launch) (g : he_G)   : he_I l yX11_six wsX11_six 0 0 0 0 g [.int 13, .int 1, .int 19, .int 15, .int 14, .int 0] [] (fun (r : Int32) (u : Unit) => r = 6942686) (fun (u : Unit) => []) := by
  refine he_begin (l := l) (g := g) (y := yX11_six) (wl := wsX11_six) (fr := 0) (lo := 0) (mc := 0) (ms := 0) (av := [.int 13, .int 1, .int 19, .int 15, .int 14, .int 0]) (ws := []) (cc := cX11_six) (maxL := 7) (ret := (some .int)) (fun A => va_Qi (fun (r : Int32) (u : Unit) => r = 6942686) (fun u t => he_post g A ((fun (u : Unit) => []) u) t) A) (by decide) rfl (Nat.le_of_ble_eq_true rfl) ?_
  intro p e s m args below meth c A ls H locs Q hQ hB
  obtain ⟨hx, hb, hr, hml, hown, hts, hlk, hin, hP, hK, hD, hS, hA, hE, hl⟩ := hB
  have hl : lv_has ls 7 [(0, .int 13), (1, .int 1), (2, .int 19), (3, .int 15), (4, .int 14), (5, .int 0)] := hl
  refine lv_bipush (v := 27) hx hb dX11_six_0 (by decide) ?_
  refine lv_bipush (v := 27) hx hb dX11_six_2 (by decide) ?_
  refine lv_bipush (v := 27) hx hb dX11_six_4 (by decide) ?_
  refine lv_iload_n hx hb dX11_six_6 rfl (lv_at hl 0 rfl) ?_
  refine lv_imul hx hb dX11_six_7 ?_
  refine he_top (351) (by decide) ?_
  refine lv_iload_n hx hb dX11_six_8 rfl (lv_at hl 1 rfl) ?_
  refine lv_iadd hx hb dX11_six_9 ?_
  refine he_top (352) (by decide) ?_
  refine lv_imul hx hb dX11_six_10 ?_
  refine he_top (9504) (by decide) ?_
  refine lv_iload_n hx hb dX11_six_11 rfl (lv_at hl 2 rfl) ?_
  refine lv_iadd hx hb dX11_six_12 ?_
  refine he_top (9523) (by decide) ?_
  refine lv_imul hx hb dX11_six_13 ?_
  refine he_top (257121) (by decide) ?_
  refine lv_istore (lv' := [(6, .int 257121), (0, .int 13), (1, .int 1), (2, .int 19), (3, .int 15), (4, .int 14), (5, .int 0)]) hx hb dX11_six_14 hl (by decide) rfl (fun ls hl => ?_)
  refine lv_iload_n hx hb dX11_six_16 rfl (lv_at hl 4 rfl) ?_
  refine lv_if_ne (tgt := 28) hx hb dX11_six_17 (by decide) (fun c_1 => ?_) (fun c_1 => ?_)
  · refine lv_iload hx hb dX11_six_28 (lv_at hl 0 rfl) ?_
    refine lv_iload_n hx hb dX11_six_30 rfl (lv_at hl 4 rfl) ?_
    refine lv_iadd hx hb dX11_six_31 ?_
    refine he_top (257136) (by decide) ?_
    refine lv_istore (lv' := [(6, .int 257136), (0, .int 13), (1, .int 1), (2, .int 19), (3, .int 15), (4, .int 14), (5, .int 0)]) hx hb dX11_six_32 hl (by decide) rfl (fun ls hl => ?_)
    refine lv_iload hx hb dX11_six_34 (lv_at hl 5 rfl) ?_
    refine lv_if_ne (tgt := 44) hx hb dX11_six_36 (by decide) (fun c_2 => ?_) (fun c_2 => ?_)
    · refine lv_bipush (v := 27) hx hb dX11_six_44 (by decide) ?_
      refine lv_iload hx hb dX11_six_46 (lv_at hl 0 rfl) ?_
      refine lv_imul hx hb dX11_six_48 ?_
      refine he_top (6942672) (by decide) ?_
      refine lv_iload hx hb dX11_six_49 (lv_at hl 5 rfl) ?_
      refine lv_iadd hx hb dX11_six_51 ?_
      refine he_top (6942686) (by decide) ?_
      refine lv_istore (lv' := [(6, .int 6942686), (0, .int 13), (1, .int 1), (2, .int 19), (3, .int 15), (4, .int 14), (5, .int 0)]) hx hb dX11_six_52 hl (by decide) rfl (fun ls hl => ?_)
      refine lv_iload hx hb dX11_six_54 (lv_at hl 6 rfl) ?_
      refine lv_if_ne (tgt := 64) hx hb dX11_six_56 (by decide) (fun c_3 => ?_) (fun c_3 => ?_)
      · exact absurd (by decide) c_3
      · refine lv_iload hx hb dX11_six_59 (lv_at hl 0 rfl) ?_
        refine lv_goto (tgt := 72) hx hb dX11_six_61 (by decide) ?_
        exact he_ri hQ hx hb hr hlk hP hD hS dX11_six_72 (Nat.le_of_ble_eq_true rfl) (Nat.le_of_ble_eq_true rfl) (()) (rfl) (rfl)
    · exact absurd c_2 (by decide)
  · exact absurd c_1 (by decide)
set_option maxHeartbeats 4000000 in
set_option maxRecDepth 100000 in
theorem h_X11_six_3_15_19_20_0_0 (l : Launch) (g : he_G)   : he_I l yX11_six wsX11_six 0 0 0 0 g [.int 3, .int 15, .int 19, .int 20, .int 0, .int 0] [] (fun (r : Int32) (u : Unit) => r = 70517) (fun (u : Unit) => []) := by
  refine he_begin (l := l) (g := g) (y := yX11_six) (wl := wsX11_six) (fr := 0) (lo := 0) (mc := 0) (ms := 0) (av := [.int 3, .int 15, .int 19, .int 20, .int 0, .int 0]) (ws := []) (cc := cX11_six) (maxL := 7) (ret := (some .int)) (fun A => va_Qi (fun (r : Int32) (u : Unit) => r = 70517) (fun u t => he_post g A ((fun (u : Unit) => []) u) t) A) (by decide) rfl (Nat.le_of_ble_eq_true rfl) ?_
  intro p e s m args below meth c A ls H locs Q hQ hB
  obtain ⟨hx, hb, hr, hml, hown, hts, hlk, hin, hP, hK, hD, hS, hA, hE, hl⟩ := hB
  have hl : lv_has ls 7 [(0, .int 3), (1, .int 15), (2, .int 19), (3, .int 20), (4, .int 0), (5, .int 0)] := hl
  refine lv_bipush (v := 27) hx hb dX11_six_0 (by decide) ?_
  refine lv_bipush (v := 27) hx hb dX11_six_2 (by decide) ?_
  refine lv_bipush (v := 27) hx hb dX11_six_4 (by decide) ?_
  refine lv_iload_n hx hb dX11_six_6 rfl (lv_at hl 0 rfl) ?_
  refine lv_imul hx hb dX11_six_7 ?_
  refine he_top (81) (by decide) ?_
  refine lv_iload_n hx hb dX11_six_8 rfl (lv_at hl 1 rfl) ?_
  refine lv_iadd hx hb dX11_six_9 ?_
  refine he_top (96) (by decide) ?_
  refine lv_imul hx hb dX11_six_10 ?_
  refine he_top (2592) (by decide) ?_
  refine lv_iload_n hx hb dX11_six_11 rfl (lv_at hl 2 rfl) ?_
  refine lv_iadd hx hb dX11_six_12 ?_
  refine he_top (2611) (by decide) ?_
  refine lv_imul hx hb dX11_six_13 ?_
  refine he_top (70497) (by decide) ?_
  refine lv_istore (lv' := [(6, .int 70497), (0, .int 3), (1, .int 15), (2, .int 19), (3, .int 20), (4, .int 0), (5, .int 0)]) hx hb dX11_six_14 hl (by decide) rfl (fun ls hl => ?_)
  refine lv_iload_n hx hb dX11_six_16 rfl (lv_at hl 4 rfl) ?_
  refine lv_if_ne (tgt := 28) hx hb dX11_six_17 (by decide) (fun c_1 => ?_) (fun c_1 => ?_)
  · refine lv_iload hx hb dX11_six_28 (lv_at hl 0 rfl) ?_
    refine lv_iload_n hx hb dX11_six_30 rfl (lv_at hl 4 rfl) ?_
    refine lv_iadd hx hb dX11_six_31 ?_
    refine he_top (70517) (by decide) ?_
    refine lv_istore (lv' := [(6, .int 70517), (0, .int 3), (1, .int 15), (2, .int 19), (3, .int 20), (4, .int 0), (5, .int 0)]) hx hb dX11_six_32 hl (by decide) rfl (fun ls hl => ?_)
    refine lv_iload hx hb dX11_six_34 (lv_at hl 5 rfl) ?_
    refine lv_if_ne (tgt := 44) hx hb dX11_six_36 (by decide) (fun c_2 => ?_) (fun c_2 => ?_)
    · exact absurd (by decide) c_2
    · refine lv_iload hx hb dX11_six_39 (lv_at hl 0 rfl) ?_
      refine lv_goto (tgt := 52) hx hb dX11_six_41 (by decide) ?_
      refine lv_istore (lv' := [(6, .int 70517), (0, .int 3), (1, .int 15), (2, .int 19), (3, .int 20), (4, .int 0), (5, .int 0)]) hx hb dX11_six_52 hl (by decide) rfl (fun ls hl => ?_)
      refine lv_iload hx hb dX11_six_54 (lv_at hl 6 rfl) ?_
      refine lv_if_ne (tgt := 64) hx hb dX11_six_56 (by decide) (fun c_3 => ?_) (fun c_3 => ?_)
      · exact absurd (by decide) c_3
      · refine lv_iload hx hb dX11_six_59 (lv_at hl 0 rfl) ?_
        refine lv_goto (tgt := 72) hx hb dX11_six_61 (by decide) ?_
        exact he_ri hQ hx hb hr hlk hP hD hS dX11_six_72 (Nat.le_of_ble_eq_true rfl) (Nat.le_of_ble_eq_true rfl) (()) (rfl) (rfl)
  · exact absurd c_1 (by decide)
set_option maxHeartbeats 4000000 in
set_option maxRecDepth 100000 in
theorem h_X11_six_14_5_1_18_0_0 (l : Launch) (g : he_G)   : he_I l yX11_six wsX11_six 0 0 0 0 g [.int 14, .int 5, .int 1, .int 18, .int 0, .int 0] [] (fun (r : Int32) (u : Unit) => r = 279252) (fun (u : Unit) => []) := by
  refine he_begin (l := l) (g := g) (y := yX11_six) (wl := wsX11_six) (fr := 0) (lo := 0) (mc := 0) (ms := 0) (av := [.int 14, .int 5, .int 1, .int 18, .int 0, .int 0]) (ws := []) (cc := cX11_six) (maxL := 7) (ret := (some .int)) (fun A => va_Qi (fun (r : Int32) (u : Unit) => r = 279252) (fun u t => he_post g A ((fun (u : Unit) => []) u) t) A) (by decide) rfl (Nat.le_of_ble_eq_true rfl) ?_
  intro p e s m args below meth c A ls H locs Q hQ hB
  obtain ⟨hx, hb, hr, hml, hown, hts, hlk, hin, hP, hK, hD, hS, hA, hE, hl⟩ := hB
  have hl : lv_has ls 7 [(0, .int 14), (1, .int 5), (2, .int 1), (3, .int 18), (4, .int 0), (5, .int 0)] := hl
  refine lv_bipush (v := 27) hx hb dX11_six_0 (by decide) ?_
  refine lv_bipush (v := 27) hx hb dX11_six_2 (by decide) ?_
  refine lv_bipush (v := 27) hx hb dX11_six_4 (by decide) ?_
  refine lv_iload_n hx hb dX11_six_6 rfl (lv_at hl 0 rfl) ?_
  refine lv_imul hx hb dX11_six_7 ?_
  refine he_top (378) (by decide) ?_
  refine lv_iload_n hx hb dX11_six_8 rfl (lv_at hl 1 rfl) ?_
  refine lv_iadd hx hb dX11_six_9 ?_
  refine he_top (383) (by decide) ?_
  refine lv_imul hx hb dX11_six_10 ?_
  refine he_top (10341) (by decide) ?_
  refine lv_iload_n hx hb dX11_six_11 rfl (lv_at hl 2 rfl) ?_
  refine lv_iadd hx hb dX11_six_12 ?_
  refine he_top (10342) (by decide) ?_
  refine lv_imul hx hb dX11_six_13 ?_
  refine he_top (279234) (by decide) ?_
  refine lv_istore (lv' := [(6, .int 279234), (0, .int 14), (1, .int 5), (2, .int 1), (3, .int 18), (4, .int 0), (5, .int 0)]) hx hb dX11_six_14 hl (by decide) rfl (fun ls hl => ?_)
  refine lv_iload_n hx hb dX11_six_16 rfl (lv_at hl 4 rfl) ?_
  refine lv_if_ne (tgt := 28) hx hb dX11_six_17 (by decide) (fun c_1 => ?_) (fun c_1 => ?_)
  · refine lv_iload hx hb dX11_six_28 (lv_at hl 0 rfl) ?_
    refine lv_iload_n hx hb dX11_six_30 rfl (lv_at hl 4 rfl) ?_
    refine lv_iadd hx hb dX11_six_31 ?_
    refine he_top (279252) (by decide) ?_
    refine lv_istore (lv' := [(6, .int 279252), (0, .int 14), (1, .int 5), (2, .int 1), (3, .int 18), (4, .int 0), (5, .int 0)]) hx hb dX11_six_32 hl (by decide) rfl (fun ls hl => ?_)
    refine lv_iload hx hb dX11_six_34 (lv_at hl 5 rfl) ?_
    refine lv_if_ne (tgt := 44) hx hb dX11_six_36 (by decide) (fun c_2 => ?_) (fun c_2 => ?_)
    · exact absurd (by decide) c_2
    · refine lv_iload hx hb dX11_six_39 (lv_at hl 0 rfl) ?_
      refine lv_goto (tgt := 52) hx hb dX11_six_41 (by decide) ?_
      refine lv_istore (lv' := [(6, .int 279252), (0, .int 14), (1, .int 5), (2, .int 1), (3, .int 18), (4, .int 0), (5, .int 0)]) hx hb dX11_six_52 hl (by decide) rfl (fun ls hl => ?_)
      refine lv_iload hx hb dX11_six_54 (lv_at hl 6 rfl) ?_
      refine lv_if_ne (tgt := 64) hx hb dX11_six_56 (by decide) (fun c_3 => ?_) (fun c_3 => ?_)
      · exact absurd (by decide) c_3
      · refine lv_iload hx hb dX11_six_59 (lv_at hl 0 rfl) ?_
        refine lv_goto (tgt := 72) hx hb dX11_six_61 (by decide) ?_
        exact he_ri hQ hx hb hr hlk hP hD hS dX11_six_72 (Nat.le_of_ble_eq_true rfl) (Nat.le_of_ble_eq_true rfl) (()) (rfl) (rfl)
  · exact absurd c_1 (by decide)
set_option maxHeartbeats 4000000 in
set_option maxRecDepth 100000 in
theorem h_X11_six_16_1_25_0_0_0 (l : Launch) (g : he_G)   : he_I l yX11_six wsX11_six 0 0 0 0 g [.int 16, .int 1, .int 25, .int 0, .int 0, .int 0] [] (fun (r : Int32) (u : Unit) => r = 11716) (fun (u : Unit) => []) := by
  refine he_begin (l := l) (g := g) (y := yX11_six) (wl := wsX11_six) (fr := 0) (lo := 0) (mc := 0) (ms := 0) (av := [.int 16, .int 1, .int 25, .int 0, .int 0, .int 0]) (ws := []) (cc := cX11_six) (maxL := 7) (ret := (some .int)) (fun A => va_Qi (fun (r : Int32) (u : Unit) => r = 11716) (fun u t => he_post g A ((fun (u : Unit) => []) u) t) A) (by decide) rfl (Nat.le_of_ble_eq_true rfl) ?_
  intro p e s m args below meth c A ls H locs Q hQ hB
  obtain ⟨hx, hb, hr, hml, hown, hts, hlk, hin, hP, hK, hD, hS, hA, hE, hl⟩ := hB
  have hl : lv_has ls 7 [(0, .int 16), (1, .int 1), (2, .int 25), (3, .int 0), (4, .int 0), (5, .int 0)] := hl
  refine lv_bipush (v := 27) hx hb dX11_six_0 (by decide) ?_
  refine lv_bipush (v := 27) hx hb dX11_six_2 (by decide) ?_
  refine lv_bipush (v := 27) hx hb dX11_six_4 (by decide) ?_
  refine lv_iload_n hx hb dX11_six_6 rfl (lv_at hl 0 rfl) ?_
  refine lv_imul hx hb dX11_six_7 ?_
  refine he_top (432) (by decide) ?_
  refine lv_iload_n hx hb dX11_six_8 rfl (lv_at hl 1 rfl) ?_
  refine lv_iadd hx hb dX11_six_9 ?_
  refine he_top (433) (by decide) ?_
  refine lv_imul hx hb dX11_six_10 ?_
  refine he_top (11691) (by decide) ?_
  refine lv_iload_n hx hb dX11_six_11 rfl (lv_at hl 2 rfl) ?_
  refine lv_iadd hx hb dX11_six_12 ?_
  refine he_top (11716) (by decide) ?_
  refine lv_imul hx hb dX11_six_13 ?_
  refine he_top (316332) (by decide) ?_
  refine lv_istore (lv' := [(6, .int 316332), (0, .int 16), (1, .int 1), (2, .int 25), (3, .int 0), (4, .int 0), (5, .int 0)]) hx hb dX11_six_14 hl (by decide) rfl (fun ls hl => ?_)
  refine lv_iload_n hx hb dX11_six_16 rfl (lv_at hl 4 rfl) ?_
  refine lv_if_ne (tgt := 28) hx hb dX11_six_17 (by decide) (fun c_1 => ?_) (fun c_1 => ?_)
  · exact absurd (by decide) c_1
  · refine lv_iload hx hb dX11_six_20 (lv_at hl 0 rfl) ?_
    refine lv_bipush (v := 27) hx hb dX11_six_22 (by decide) ?_
    refine lv_idiv hx hb dX11_six_24 (by decide) ?_
    refine he_top (11716) (by decide) ?_
    refine lv_goto (tgt := 32) hx hb dX11_six_25 (by decide) ?_
    refine lv_istore (lv' := [(6, .int 11716), (0, .int 16), (1, .int 1), (2, .int 25), (3, .int 0), (4, .int 0), (5, .int 0)]) hx hb dX11_six_32 hl (by decide) rfl (fun ls hl => ?_)
    refine lv_iload hx hb dX11_six_34 (lv_at hl 5 rfl) ?_
    refine lv_if_ne (tgt := 44) hx hb dX11_six_36 (by decide) (fun c_2 => ?_) (fun c_2 => ?_)
    · exact absurd (by decide) c_2
    · refine lv_iload hx hb dX11_six_39 (lv_at hl 0 rfl) ?_
      refine lv_goto (tgt := 52) hx hb dX11_six_41 (by decide) ?_
      refine lv_istore (lv' := [(6, .int 11716), (0, .int 16), (1, .int 1), (2, .int 25), (3, .int 0), (4, .int 0), (5, .int 0)]) hx hb dX11_six_52 hl (by decide) rfl (fun ls hl => ?_)
      refine lv_iload hx hb dX11_six_54 (lv_at hl 6 rfl) ?_
      refine lv_if_ne (tgt := 64) hx hb dX11_six_56 (by decide) (fun c_3 => ?_) (fun c_3 => ?_)
      · exact absurd (by decide) c_3
      · refine lv_iload hx hb dX11_six_59 (lv_at hl 0 rfl) ?_
        refine lv_goto (tgt := 72) hx hb dX11_six_61 (by decide) ?_
        exact he_ri hQ hx hb hr hlk hP hD hS dX11_six_72 (Nat.le_of_ble_eq_true rfl) (Nat.le_of_ble_eq_true rfl) (()) (rfl) (rfl)
set_option maxHeartbeats 4000000 in
set_option maxRecDepth 100000 in
theorem h_X11_six_23_9_14_20_5_18 (l : Launch) (g : he_G)   : he_I l yX11_six wsX11_six 0 0 0 0 g [.int 23, .int 9, .int 14, .int 20, .int 5, .int 18] [] (fun (r : Int32) (u : Unit) => r = 335098125) (fun (u : Unit) => []) := by
  refine he_begin (l := l) (g := g) (y := yX11_six) (wl := wsX11_six) (fr := 0) (lo := 0) (mc := 0) (ms := 0) (av := [.int 23, .int 9, .int 14, .int 20, .int 5, .int 18]) (ws := []) (cc := cX11_six) (maxL := 7) (ret := (some .int)) (fun A => va_Qi (fun (r : Int32) (u : Unit) => r = 335098125) (fun u t => he_post g A ((fun (u : Unit) => []) u) t) A) (by decide) rfl (Nat.le_of_ble_eq_true rfl) ?_
  intro p e s m args below meth c A ls H locs Q hQ hB
  obtain ⟨hx, hb, hr, hml, hown, hts, hlk, hin, hP, hK, hD, hS, hA, hE, hl⟩ := hB
  have hl : lv_has ls 7 [(0, .int 23), (1, .int 9), (2, .int 14), (3, .int 20), (4, .int 5), (5, .int 18)] := hl
  refine lv_bipush (v := 27) hx hb dX11_six_0 (by decide) ?_
  refine lv_bipush (v := 27) hx hb dX11_six_2 (by decide) ?_
  refine lv_bipush (v := 27) hx hb dX11_six_4 (by decide) ?_
  refine lv_iload_n hx hb dX11_six_6 rfl (lv_at hl 0 rfl) ?_
  refine lv_imul hx hb dX11_six_7 ?_
  refine he_top (621) (by decide) ?_
  refine lv_iload_n hx hb dX11_six_8 rfl (lv_at hl 1 rfl) ?_
  refine lv_iadd hx hb dX11_six_9 ?_
  refine he_top (630) (by decide) ?_
  refine lv_imul hx hb dX11_six_10 ?_
  refine he_top (17010) (by decide) ?_
  refine lv_iload_n hx hb dX11_six_11 rfl (lv_at hl 2 rfl) ?_
  refine lv_iadd hx hb dX11_six_12 ?_
  refine he_top (17024) (by decide) ?_
  refine lv_imul hx hb dX11_six_13 ?_
  refine he_top (459648) (by decide) ?_
  refine lv_istore (lv' := [(6, .int 459648), (0, .int 23), (1, .int 9), (2, .int 14), (3, .int 20), (4, .int 5), (5, .int 18)]) hx hb dX11_six_14 hl (by decide) rfl (fun ls hl => ?_)
  refine lv_iload_n hx hb dX11_six_16 rfl (lv_at hl 4 rfl) ?_
  refine lv_if_ne (tgt := 28) hx hb dX11_six_17 (by decide) (fun c_1 => ?_) (fun c_1 => ?_)
  · refine lv_iload hx hb dX11_six_28 (lv_at hl 0 rfl) ?_
    refine lv_iload_n hx hb dX11_six_30 rfl (lv_at hl 4 rfl) ?_
    refine lv_iadd hx hb dX11_six_31 ?_
    refine he_top (459668) (by decide) ?_
    refine lv_istore (lv' := [(6, .int 459668), (0, .int 23), (1, .int 9), (2, .int 14), (3, .int 20), (4, .int 5), (5, .int 18)]) hx hb dX11_six_32 hl (by decide) rfl (fun ls hl => ?_)
    refine lv_iload hx hb dX11_six_34 (lv_at hl 5 rfl) ?_
    refine lv_if_ne (tgt := 44) hx hb dX11_six_36 (by decide) (fun c_2 => ?_) (fun c_2 => ?_)
    · refine lv_bipush (v := 27) hx hb dX11_six_44 (by decide) ?_
      refine lv_iload hx hb dX11_six_46 (lv_at hl 0 rfl) ?_
      refine lv_imul hx hb dX11_six_48 ?_
      refine he_top (12411036) (by decide) ?_
      refine lv_iload hx hb dX11_six_49 (lv_at hl 5 rfl) ?_
      refine lv_iadd hx hb dX11_six_51 ?_
      refine he_top (12411041) (by decide) ?_
      refine lv_istore (lv' := [(6, .int 12411041), (0, .int 23), (1, .int 9), (2, .int 14), (3, .int 20), (4, .int 5), (5, .int 18)]) hx hb dX11_six_52 hl (by decide) rfl (fun ls hl => ?_)
      refine lv_iload hx hb dX11_six_54 (lv_at hl 6 rfl) ?_
      refine lv_if_ne (tgt := 64) hx hb dX11_six_56 (by decide) (fun c_3 => ?_) (fun c_3 => ?_)
      · refine lv_bipush (v := 27) hx hb dX11_six_64 (by decide) ?_
        refine lv_iload hx hb dX11_six_66 (lv_at hl 0 rfl) ?_
        refine lv_imul hx hb dX11_six_68 ?_
        refine he_top (335098107) (by decide) ?_
        refine lv_iload hx hb dX11_six_69 (lv_at hl 6 rfl) ?_
        refine lv_iadd hx hb dX11_six_71 ?_
        refine he_top (335098125) (by decide) ?_
        exact he_ri hQ hx hb hr hlk hP hD hS dX11_six_72 (Nat.le_of_ble_eq_true rfl) (Nat.le_of_ble_eq_true rfl) (()) (rfl) (rfl)
      · exact absurd c_3 (by decide)
    · exact absurd c_2 (by decide)
  · exact absurd c_1 (by decide)
set_option maxHeartbeats 4000000 in
set_option maxRecDepth 100000 in
theorem h_X11_six_3_15_18_11_19_0 (l : Launch) (g : he_G)   : he_I l yX11_six wsX11_six 0 0 0 0 g [.int 3, .int 15, .int 18, .int 11, .int 19, .int 0] [] (fun (r : Int32) (u : Unit) => r = 1903006) (fun (u : Unit) => []) := by
  refine he_begin (l := l) (g := g) (y := yX11_six) (wl := wsX11_six) (fr := 0) (lo := 0) (mc := 0) (ms := 0) (av := [.int 3, .int 15, .int 18, .int 11, .int 19, .int 0]) (ws := []) (cc := cX11_six) (maxL := 7) (ret := (some .int)) (fun A => va_Qi (fun (r : Int32) (u : Unit) => r = 1903006) (fun u t => he_post g A ((fun (u : Unit) => []) u) t) A) (by decide) rfl (Nat.le_of_ble_eq_true rfl) ?_
  intro p e s m args below meth c A ls H locs Q hQ hB
  obtain ⟨hx, hb, hr, hml, hown, hts, hlk, hin, hP, hK, hD, hS, hA, hE, hl⟩ := hB
  have hl : lv_has ls 7 [(0, .int 3), (1, .int 15), (2, .int 18), (3, .int 11), (4, .int 19), (5, .int 0)] := hl
  refine lv_bipush (v := 27) hx hb dX11_six_0 (by decide) ?_
  refine lv_bipush (v := 27) hx hb dX11_six_2 (by decide) ?_
  refine lv_bipush (v := 27) hx hb dX11_six_4 (by decide) ?_
  refine lv_iload_n hx hb dX11_six_6 rfl (lv_at hl 0 rfl) ?_
  refine lv_imul hx hb dX11_six_7 ?_
  refine he_top (81) (by decide) ?_
  refine lv_iload_n hx hb dX11_six_8 rfl (lv_at hl 1 rfl) ?_
  refine lv_iadd hx hb dX11_six_9 ?_
  refine he_top (96) (by decide) ?_
  refine lv_imul hx hb dX11_six_10 ?_
  refine he_top (2592) (by decide) ?_
  refine lv_iload_n hx hb dX11_six_11 rfl (lv_at hl 2 rfl) ?_
  refine lv_iadd hx hb dX11_six_12 ?_
  refine he_top (2610) (by decide) ?_
  refine lv_imul hx hb dX11_six_13 ?_
  refine he_top (70470) (by decide) ?_
  refine lv_istore (lv' := [(6, .int 70470), (0, .int 3), (1, .int 15), (2, .int 18), (3, .int 11), (4, .int 19), (5, .int 0)]) hx hb dX11_six_14 hl (by decide) rfl (fun ls hl => ?_)
  refine lv_iload_n hx hb dX11_six_16 rfl (lv_at hl 4 rfl) ?_
  refine lv_if_ne (tgt := 28) hx hb dX11_six_17 (by decide) (fun c_1 => ?_) (fun c_1 => ?_)
  · refine lv_iload hx hb dX11_six_28 (lv_at hl 0 rfl) ?_
    refine lv_iload_n hx hb dX11_six_30 rfl (lv_at hl 4 rfl) ?_
    refine lv_iadd hx hb dX11_six_31 ?_
    refine he_top (70481) (by decide) ?_
    refine lv_istore (lv' := [(6, .int 70481), (0, .int 3), (1, .int 15), (2, .int 18), (3, .int 11), (4, .int 19), (5, .int 0)]) hx hb dX11_six_32 hl (by decide) rfl (fun ls hl => ?_)
    refine lv_iload hx hb dX11_six_34 (lv_at hl 5 rfl) ?_
    refine lv_if_ne (tgt := 44) hx hb dX11_six_36 (by decide) (fun c_2 => ?_) (fun c_2 => ?_)
    · refine lv_bipush (v := 27) hx hb dX11_six_44 (by decide) ?_
      refine lv_iload hx hb dX11_six_46 (lv_at hl 0 rfl) ?_
      refine lv_imul hx hb dX11_six_48 ?_
      refine he_top (1902987) (by decide) ?_
      refine lv_iload hx hb dX11_six_49 (lv_at hl 5 rfl) ?_
      refine lv_iadd hx hb dX11_six_51 ?_
      refine he_top (1903006) (by decide) ?_
      refine lv_istore (lv' := [(6, .int 1903006), (0, .int 3), (1, .int 15), (2, .int 18), (3, .int 11), (4, .int 19), (5, .int 0)]) hx hb dX11_six_52 hl (by decide) rfl (fun ls hl => ?_)
      refine lv_iload hx hb dX11_six_54 (lv_at hl 6 rfl) ?_
      refine lv_if_ne (tgt := 64) hx hb dX11_six_56 (by decide) (fun c_3 => ?_) (fun c_3 => ?_)
      · exact absurd (by decide) c_3
      · refine lv_iload hx hb dX11_six_59 (lv_at hl 0 rfl) ?_
        refine lv_goto (tgt := 72) hx hb dX11_six_61 (by decide) ?_
        exact he_ri hQ hx hb hr hlk hP hD hS dX11_six_72 (Nat.le_of_ble_eq_true rfl) (Nat.le_of_ble_eq_true rfl) (()) (rfl) (rfl)
    · exact absurd c_2 (by decide)
  · exact absurd c_1 (by decide)
end
section
set_option maxHeartbeats 4000000 in
set_option maxRecDepth 100000 in
theorem h_X11_six_2_15_14_21_19_0 (l : Launch) (g : he_G)   : he_I l yX11_six wsX11_six 0 0 0 0 g [.int 2, .int 15, .int 14, .int 21, .int 19, .int 0] [] (fun (r : Int32) (u : Unit) => r = 1368919) (fun (u : Unit) => []) := by
  refine he_begin (l := l) (g := g) (y := yX11_six) (wl := wsX11_six) (fr := 0) (lo := 0) (mc := 0) (ms := 0) (av := [.int 2, .int 15, .int 14, .int 21, .int 19, .int 0]) (ws := []) (cc := cX11_six) (maxL := 7) (ret := (some .int)) (fun A => va_Qi (fun (r : Int32) (u : Unit) => r = 1368919) (fun u t => he_post g A ((fun (u : Unit) => []) u) t) A) (by decide) rfl (Nat.le_of_ble_eq_true rfl) ?_
  intro p e s m args below meth c A ls H locs Q hQ hB
  obtain ⟨hx, hb, hr, hml, hown, hts, hlk, hin, hP, hK, hD, hS, hA, hE, hl⟩ := hB
  have hl : lv_has ls 7 [(0, .int 2), (1, .int 15), (2, .int 14), (3, .int 21), (4, .int 19), (5, .int 0)] := hl
  refine lv_bipush (v := 27) hx hb dX11_six_0 (by decide) ?_
  refine lv_bipush (v := 27) hx hb dX11_six_2 (by decide) ?_
  refine lv_bipush (v := 27) hx hb dX11_six_4 (by decide) ?_
  refine lv_iload_n hx hb dX11_six_6 rfl (lv_at hl 0 rfl) ?_
  refine lv_imul hx hb dX11_six_7 ?_
  refine he_top (54) (by decide) ?_
  refine lv_iload_n hx hb dX11_six_8 rfl (lv_at hl 1 rfl) ?_
  refine lv_iadd hx hb dX11_six_9 ?_
  refine he_top (69) (by decide) ?_
  refine lv_imul hx hb dX11_six_10 ?_
  refine he_top (1863) (by decide) ?_
  refine lv_iload_n hx hb dX11_six_11 rfl (lv_at hl 2 rfl) ?_
  refine lv_iadd hx hb dX11_six_12 ?_
  refine he_top (1877) (by decide) ?_
  refine lv_imul hx hb dX11_six_13 ?_
  refine he_top (50679) (by decide) ?_
  refine lv_istore (lv' := [(6, .int 50679), (0, .int 2), (1, .int 15), (2, .int 14), (3, .int 21), (4, .int 19), (5, .int 0)]) hx hb dX11_six_14 hl (by decide) rfl (fun ls hl => ?_)
  refine lv_iload_n hx hb dX11_six_16 rfl (lv_at hl 4 rfl) ?_
  refine lv_if_ne (tgt := 28) hx hb dX11_six_17 (by decide) (fun c_1 => ?_) (fun c_1 => ?_)
  · refine lv_iload hx hb dX11_six_28 (lv_at hl 0 rfl) ?_
    refine lv_iload_n hx hb dX11_six_30 rfl (lv_at hl 4 rfl) ?_
    refine lv_iadd hx hb dX11_six_31 ?_
    refine he_top (50700) (by decide) ?_
    refine lv_istore (lv' := [(6, .int 50700), (0, .int 2), (1, .int 15), (2, .int 14), (3, .int 21), (4, .int 19), (5, .int 0)]) hx hb dX11_six_32 hl (by decide) rfl (fun ls hl => ?_)
    refine lv_iload hx hb dX11_six_34 (lv_at hl 5 rfl) ?_
    refine lv_if_ne (tgt := 44) hx hb dX11_six_36 (by decide) (fun c_2 => ?_) (fun c_2 => ?_)
    · refine lv_bipush (v := 27) hx hb dX11_six_44 (by decide) ?_
      refine lv_iload hx hb dX11_six_46 (lv_at hl 0 rfl) ?_
      refine lv_imul hx hb dX11_six_48 ?_
      refine he_top (1368900) (by decide) ?_
      refine lv_iload hx hb dX11_six_49 (lv_at hl 5 rfl) ?_
      refine lv_iadd hx hb dX11_six_51 ?_
      refine he_top (1368919) (by decide) ?_
      refine lv_istore (lv' := [(6, .int 1368919), (0, .int 2), (1, .int 15), (2, .int 14), (3, .int 21), (4, .int 19), (5, .int 0)]) hx hb dX11_six_52 hl (by decide) rfl (fun ls hl => ?_)
      refine lv_iload hx hb dX11_six_54 (lv_at hl 6 rfl) ?_
      refine lv_if_ne (tgt := 64) hx hb dX11_six_56 (by decide) (fun c_3 => ?_) (fun c_3 => ?_)
      · exact absurd (by decide) c_3
      · refine lv_iload hx hb dX11_six_59 (lv_at hl 0 rfl) ?_
        refine lv_goto (tgt := 72) hx hb dX11_six_61 (by decide) ?_
        exact he_ri hQ hx hb hr hlk hP hD hS dX11_six_72 (Nat.le_of_ble_eq_true rfl) (Nat.le_of_ble_eq_true rfl) (()) (rfl) (rfl)
    · exact absurd c_2 (by decide)
  · exact absurd c_1 (by decide)
set_option maxHeartbeats 4000000 in
set_option maxRecDepth 100000 in
theorem h_X11_six_20_9_12_12_0_0 (l : Launch) (g : he_G)   : he_I l yX11_six wsX11_six 0 0 0 0 g [.int 20, .int 9, .int 12, .int 12, .int 0, .int 0] [] (fun (r : Int32) (u : Unit) => r = 400557) (fun (u : Unit) => []) := by
  refine he_begin (l := l) (g := g) (y := yX11_six) (wl := wsX11_six) (fr := 0) (lo := 0) (mc := 0) (ms := 0) (av := [.int 20, .int 9, .int 12, .int 12, .int 0, .int 0]) (ws := []) (cc := cX11_six) (maxL := 7) (ret := (some .int)) (fun A => va_Qi (fun (r : Int32) (u : Unit) => r = 400557) (fun u t => he_post g A ((fun (u : Unit) => []) u) t) A) (by decide) rfl (Nat.le_of_ble_eq_true rfl) ?_
  intro p e s m args below meth c A ls H locs Q hQ hB
  obtain ⟨hx, hb, hr, hml, hown, hts, hlk, hin, hP, hK, hD, hS, hA, hE, hl⟩ := hB
  have hl : lv_has ls 7 [(0, .int 20), (1, .int 9), (2, .int 12), (3, .int 12), (4, .int 0), (5, .int 0)] := hl
  refine lv_bipush (v := 27) hx hb dX11_six_0 (by decide) ?_
  refine lv_bipush (v := 27) hx hb dX11_six_2 (by decide) ?_
  refine lv_bipush (v := 27) hx hb dX11_six_4 (by decide) ?_
  refine lv_iload_n hx hb dX11_six_6 rfl (lv_at hl 0 rfl) ?_
  refine lv_imul hx hb dX11_six_7 ?_
  refine he_top (540) (by decide) ?_
  refine lv_iload_n hx hb dX11_six_8 rfl (lv_at hl 1 rfl) ?_
  refine lv_iadd hx hb dX11_six_9 ?_
  refine he_top (549) (by decide) ?_
  refine lv_imul hx hb dX11_six_10 ?_
  refine he_top (14823) (by decide) ?_
  refine lv_iload_n hx hb dX11_six_11 rfl (lv_at hl 2 rfl) ?_
  refine lv_iadd hx hb dX11_six_12 ?_
  refine he_top (14835) (by decide) ?_
  refine lv_imul hx hb dX11_six_13 ?_
  refine he_top (400545) (by decide) ?_
  refine lv_istore (lv' := [(6, .int 400545), (0, .int 20), (1, .int 9), (2, .int 12), (3, .int 12), (4, .int 0), (5, .int 0)]) hx hb dX11_six_14 hl (by decide) rfl (fun ls hl => ?_)
  refine lv_iload_n hx hb dX11_six_16 rfl (lv_at hl 4 rfl) ?_
  refine lv_if_ne (tgt := 28) hx hb dX11_six_17 (by decide) (fun c_1 => ?_) (fun c_1 => ?_)
  · refine lv_iload hx hb dX11_six_28 (lv_at hl 0 rfl) ?_
    refine lv_iload_n hx hb dX11_six_30 rfl (lv_at hl 4 rfl) ?_
    refine lv_iadd hx hb dX11_six_31 ?_
    refine he_top (400557) (by decide) ?_
    refine lv_istore (lv' := [(6, .int 400557), (0, .int 20), (1, .int 9), (2, .int 12), (3, .int 12), (4, .int 0), (5, .int 0)]) hx hb dX11_six_32 hl (by decide) rfl (fun ls hl => ?_)
    refine lv_iload hx hb dX11_six_34 (lv_at hl 5 rfl) ?_
    refine lv_if_ne (tgt := 44) hx hb dX11_six_36 (by decide) (fun c_2 => ?_) (fun c_2 => ?_)
    · exact absurd (by decide) c_2
    · refine lv_iload hx hb dX11_six_39 (lv_at hl 0 rfl) ?_
      refine lv_goto (tgt := 52) hx hb dX11_six_41 (by decide) ?_
      refine lv_istore (lv' := [(6, .int 400557), (0, .int 20), (1, .int 9), (2, .int 12), (3, .int 12), (4, .int 0), (5, .int 0)]) hx hb dX11_six_52 hl (by decide) rfl (fun ls hl => ?_)
      refine lv_iload hx hb dX11_six_54 (lv_at hl 6 rfl) ?_
      refine lv_if_ne (tgt := 64) hx hb dX11_six_56 (by decide) (fun c_3 => ?_) (fun c_3 => ?_)
      · exact absurd (by decide) c_3
      · refine lv_iload hx hb dX11_six_59 (lv_at hl 0 rfl) ?_
        refine lv_goto (tgt := 72) hx hb dX11_six_61 (by decide) ?_
        exact he_ri hQ hx hb hr hlk hP hD hS dX11_six_72 (Nat.le_of_ble_eq_true rfl) (Nat.le_of_ble_eq_true rfl) (()) (rfl) (rfl)
  · exact absurd c_1 (by decide)
set_option maxHeartbeats 4000000 in
set_option maxRecDepth 100000 in
theorem h_X11_six_2_18_5_1_3_8 (l : Launch) (g : he_G)   : he_I l yX11_six wsX11_six 0 0 0 0 g [.int 2, .int 18, .int 5, .int 1, .int 3, .int 8] [] (fun (r : Int32) (u : Unit) => r = 38362985) (fun (u : Unit) => []) := by
  refine he_begin (l := l) (g := g) (y := yX11_six) (wl := wsX11_six) (fr := 0) (lo := 0) (mc := 0) (ms := 0) (av := [.int 2, .int 18, .int 5, .int 1, .int 3, .int 8]) (ws := []) (cc := cX11_six) (maxL := 7) (ret := (some .int)) (fun A => va_Qi (fun (r : Int32) (u : Unit) => r = 38362985) (fun u t => he_post g A ((fun (u : Unit) => []) u) t) A) (by decide) rfl (Nat.le_of_ble_eq_true rfl) ?_
  intro p e s m args below meth c A ls H locs Q hQ hB
  obtain ⟨hx, hb, hr, hml, hown, hts, hlk, hin, hP, hK, hD, hS, hA, hE, hl⟩ := hB
  have hl : lv_has ls 7 [(0, .int 2), (1, .int 18), (2, .int 5), (3, .int 1), (4, .int 3), (5, .int 8)] := hl
  refine lv_bipush (v := 27) hx hb dX11_six_0 (by decide) ?_
  refine lv_bipush (v := 27) hx hb dX11_six_2 (by decide) ?_
  refine lv_bipush (v := 27) hx hb dX11_six_4 (by decide) ?_
  refine lv_iload_n hx hb dX11_six_6 rfl (lv_at hl 0 rfl) ?_
  refine lv_imul hx hb dX11_six_7 ?_
  refine he_top (54) (by decide) ?_
  refine lv_iload_n hx hb dX11_six_8 rfl (lv_at hl 1 rfl) ?_
  refine lv_iadd hx hb dX11_six_9 ?_
  refine he_top (72) (by decide) ?_
  refine lv_imul hx hb dX11_six_10 ?_
  refine he_top (1944) (by decide) ?_
  refine lv_iload_n hx hb dX11_six_11 rfl (lv_at hl 2 rfl) ?_
  refine lv_iadd hx hb dX11_six_12 ?_
  refine he_top (1949) (by decide) ?_
  refine lv_imul hx hb dX11_six_13 ?_
  refine he_top (52623) (by decide) ?_
  refine lv_istore (lv' := [(6, .int 52623), (0, .int 2), (1, .int 18), (2, .int 5), (3, .int 1), (4, .int 3), (5, .int 8)]) hx hb dX11_six_14 hl (by decide) rfl (fun ls hl => ?_)
  refine lv_iload_n hx hb dX11_six_16 rfl (lv_at hl 4 rfl) ?_
  refine lv_if_ne (tgt := 28) hx hb dX11_six_17 (by decide) (fun c_1 => ?_) (fun c_1 => ?_)
  · refine lv_iload hx hb dX11_six_28 (lv_at hl 0 rfl) ?_
    refine lv_iload_n hx hb dX11_six_30 rfl (lv_at hl 4 rfl) ?_
    refine lv_iadd hx hb dX11_six_31 ?_
    refine he_top (52624) (by decide) ?_
    refine lv_istore (lv' := [(6, .int 52624), (0, .int 2), (1, .int 18), (2, .int 5), (3, .int 1), (4, .int 3), (5, .int 8)]) hx hb dX11_six_32 hl (by decide) rfl (fun ls hl => ?_)
    refine lv_iload hx hb dX11_six_34 (lv_at hl 5 rfl) ?_
    refine lv_if_ne (tgt := 44) hx hb dX11_six_36 (by decide) (fun c_2 => ?_) (fun c_2 => ?_)
    · refine lv_bipush (v := 27) hx hb dX11_six_44 (by decide) ?_
      refine lv_iload hx hb dX11_six_46 (lv_at hl 0 rfl) ?_
      refine lv_imul hx hb dX11_six_48 ?_
      refine he_top (1420848) (by decide) ?_
      refine lv_iload hx hb dX11_six_49 (lv_at hl 5 rfl) ?_
      refine lv_iadd hx hb dX11_six_51 ?_
      refine he_top (1420851) (by decide) ?_
      refine lv_istore (lv' := [(6, .int 1420851), (0, .int 2), (1, .int 18), (2, .int 5), (3, .int 1), (4, .int 3), (5, .int 8)]) hx hb dX11_six_52 hl (by decide) rfl (fun ls hl => ?_)
      refine lv_iload hx hb dX11_six_54 (lv_at hl 6 rfl) ?_
      refine lv_if_ne (tgt := 64) hx hb dX11_six_56 (by decide) (fun c_3 => ?_) (fun c_3 => ?_)
      · refine lv_bipush (v := 27) hx hb dX11_six_64 (by decide) ?_
        refine lv_iload hx hb dX11_six_66 (lv_at hl 0 rfl) ?_
        refine lv_imul hx hb dX11_six_68 ?_
        refine he_top (38362977) (by decide) ?_
        refine lv_iload hx hb dX11_six_69 (lv_at hl 6 rfl) ?_
        refine lv_iadd hx hb dX11_six_71 ?_
        refine he_top (38362985) (by decide) ?_
        exact he_ri hQ hx hb hr hlk hP hD hS dX11_six_72 (Nat.le_of_ble_eq_true rfl) (Nat.le_of_ble_eq_true rfl) (()) (rfl) (rfl)
      · exact absurd c_3 (by decide)
    · exact absurd c_2 (by decide)
  · exact absurd c_1 (by decide)
end
section
/-- the rows of a table hold v: all below i, of i the first j -/
def rset (r : Nat → Nat) (K : Nat) (v : Int32) (M : Nat → Nat → Int32) (i j : Nat) : Prop := (∀ a, a < i → ∀ b, b < K → M (r a) b = v) ∧ ∀ b, b < j → M (r i) b = v
theorem rset_0 (r : Nat → Nat) (K : Nat) (v : Int32) (M : Nat → Nat → Int32) : rset r K v M 0 0 := ⟨fun a h => absurd h (Nat.not_lt_zero a), fun b h => absurd h (Nat.not_lt_zero b)⟩
theorem rset_s {r : Nat → Nat} {K N : Nat} {v : Int32} {M : Nat → Nat → Int32} {i j : Nat} (hinj : ∀ a b, a < N → b < N → r a = r b → a = b) (hi : i < N) (h : rset r K v M i j) : rset r K v (va_up M (r i) (upd (M (r i)) j v)) i (j + 1) := by
  constructor
  · intro a ha b hb
    unfold va_up
    rw [if_neg (fun h9 => absurd (hinj a i (by omega) hi h9) (by omega))]
    exact h.1 a ha b hb
  · intro b hb
    unfold va_up
    rw [if_pos rfl]
    unfold upd
    by_cases h9 : b = j
    · rw [if_pos h9]
    · rw [if_neg h9]
      exact h.2 b (by omega)
theorem rset_n {r : Nat → Nat} {K : Nat} {v : Int32} {M : Nat → Nat → Int32} {i j : Nat} (hj : K ≤ j) (h : rset r K v M i j) : rset r K v M (i + 1) 0 := by
  constructor
  · intro a ha b hb
    rcases Nat.lt_or_ge a i with q | q
    · exact h.1 a q b hb
    · rw [show a = i by omega]
      exact h.2 b (by omega)
  · intro b hb
    exact absurd hb (Nat.not_lt_zero b)
/-- a siege's rows as it begins: the kinds at 8, nothing offered -/
def rNew (r7 r9 : Nat → Nat) (M : Nat → Nat → Int32) : Prop := (∀ i, i < 4 → ∀ b, b < 2 → M (r7 i) b = 8) ∧ ∀ i, i < 2 → ∀ b, b < 12 → M (r9 i) b = 0
theorem rset_k7 {r : Nat → Nat} {K : Nat} {v : Int32} {M : Nat → Nat → Int32} {a : Nat} (h : rset r K v M 4 0) (hne : ∀ q, q < 4 → r q ≠ a) (f : Nat → Int32) : rset r K v (va_up M a f) 4 0 := by
  constructor
  · intro q hq b hb
    unfold va_up
    rw [if_neg (hne q hq)]
    exact h.1 q hq b hb
  · intro b hb
    exact absurd hb (Nat.not_lt_zero b)
theorem sb10 (rt f : Nat → Int32) : sbF rt f 10 = -1 := by unfold sbF; rw [upd_n (by decide), upd_s]
theorem sb24 (rt f : Nat → Int32) : sbF rt f 24 = 0 := by unfold sbF; rw [upd_n (by decide), upd_n (by decide), upd_n (by decide), upd_n (by decide), upd_n (by decide), upd_n (by decide), upd_n (by decide), upd_n (by decide)]; rfl
theorem tn_0 (f : Nat → Int32) : tnF f 0 = nI 0 := by simp [tnF, lw15, flF, mdV, mdL]; rfl
theorem fl_0 (rt tf : Nat → Int32) : flF rt tf 25 0 = rt 0 := by unfold flF; rw [if_pos (by decide)]
theorem mEx_tr {r : Nat → Nat} {N : Nat} {M M1 M2 : Nat → Nat → Int32} (h1 : mEx r N M M1) (h2 : mEx r N M1 M2) : mEx r N M M2 := fun a ha => (h2 a ha).trans (h1 a ha)
end
section
/-- a contract's numbers: how near, corks, till -/
def cOk (f : Nat → Int32) : Prop := (∃ q, q ≤ 9 ∧ f 2 = nI q) ∧ (∃ q, q ≤ 99 ∧ f 3 = nI q) ∧ ∃ q, 1 ≤ q ∧ q ≤ 36 ∧ f 5 = nI q
/-- a contract's breaches: none, or a wall -/
def bOk (f : Nat → Int32) : Prop := ∀ m, m < 36 → f m = -1 ∨ ∃ k, k < 6 ∧ f m = nI k
theorem cOk_upd {f : Nat → Int32} {i : Nat} {v : Int32} (h : cOk f) (h2 : i = 2 → ∃ q, q ≤ 9 ∧ v = nI q) (h3 : i = 3 → ∃ q, q ≤ 99 ∧ v = nI q) (h5 : i = 5 → ∃ q, 1 ≤ q ∧ q ≤ 36 ∧ v = nI q) : cOk (upd f i v) := by
  obtain ⟨a, b, d⟩ := h
  refine ⟨?_, ?_, ?_⟩
  · by_cases e : i = 2
    · subst e; rw [upd_s]; exact h2 rfl
    · rw [upd_n (fun h9 => e h9.symm)]; exact a
  · by_cases e : i = 3
    · subst e; rw [upd_s]; exact h3 rfl
    · rw [upd_n (fun h9 => e h9.symm)]; exact b
  · by_cases e : i = 5
    · subst e; rw [upd_s]; exact h5 rfl
    · rw [upd_n (fun h9 => e h9.symm)]; exact d
theorem bOk_upd {f : Nat → Int32} {i : Nat} {v : Int32} (h : bOk f) (hv : v = -1 ∨ ∃ k, k < 6 ∧ v = nI k) : bOk (upd f i v) := by
  intro m hm
  unfold upd
  split
  · exact hv
  · exact h m hm
theorem wi_nat {x a b : Int32} {A B : Nat} (ha : a = nI A) (hb : b = nI B) (hA : A < 2147483648) (hB : B < 2147483648) (h : ¬ he_within x a b = 0) : ∃ n : Nat, x = nI n ∧ A ≤ n ∧ n ≤ B := by
  have h1 := (within_le h).1
  have h2 := (within_le h).2
  have h0 : ¬ x < 0 := fun h9 => absurd (Int32.lt_of_lt_of_le h9 (by rw [ha] at h1; exact Int32.le_trans (nI_pos' hA) h1)) (Int32.lt_irrefl)
  obtain ⟨j, hj, e⟩ := nI_of h0
  subst e
  exact ⟨j, rfl, (nI_leI hA hj).mp (by rw [← ha]; exact h1), (nI_leI hj hB).mp (by rw [← hb]; exact h2)⟩
def iniF (k : Nat) : Int32 := if k = 1 then -1 else if k = 2 then 9 else if k = 5 then 36 else 0
theorem ini_c (f : Nat → Int32) : cOk (flF iniF f 7) := ⟨⟨9, by decide, rfl⟩, ⟨0, by decide, rfl⟩, ⟨36, by decide, by decide, rfl⟩⟩
theorem ini_b (f : Nat → Int32) : bOk (flF (fun _ => -1) f 36) := by
  intro m hm
  left
  unfold flF
  rw [if_pos hm]
/-- a row that is being filled, all others as they were -/
def rFill (a : Nat) (f : Nat → Int32) (M M2 : Nat → Nat → Int32) (i : Nat) : Prop := (∀ b, b < i → M2 a b = f b) ∧ ∀ q, q ≠ a → M2 q = M q
theorem rFill_0 (a : Nat) (f : Nat → Int32) (M : Nat → Nat → Int32) : rFill a f M M 0 := ⟨fun b h => absurd h (Nat.not_lt_zero b), fun _ _ => rfl⟩
theorem rFill_s {a : Nat} {f : Nat → Int32} {M M2 : Nat → Nat → Int32} {i : Nat} (h : rFill a f M M2 i) : rFill a f M (va_up M2 a (upd (M2 a) i (f i))) (i + 1) := by
  constructor
  · intro b hb
    unfold va_up
    rw [if_pos rfl]
    unfold upd
    by_cases e : b = i
    · rw [if_pos e, e]
    · rw [if_neg e]; exact h.1 b (by omega)
  · intro q hq
    unfold va_up
    rw [if_neg hq]
    exact h.2 q hq
theorem cOk_eq {f g : Nat → Int32} (h : cOk f) (e : ∀ b, b < 7 → g b = f b) : cOk g := by
  obtain ⟨a, b, d⟩ := h
  exact ⟨by rw [e 2 (by decide)]; exact a, by rw [e 3 (by decide)]; exact b, by rw [e 5 (by decide)]; exact d⟩
theorem bOk_eq {f g : Nat → Int32} (h : bOk f) (e : ∀ b, b < 36 → g b = f b) : bOk g := fun m hm => by rw [e m hm]; exact h m hm
end
