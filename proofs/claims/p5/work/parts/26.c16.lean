set_option maxHeartbeats 4000000 in
set_option maxRecDepth 100000 in
theorem s_X5_breachesTold (l : Launch) (g : he_G) (t0 : Nat) (t1 : Nat) (t2 : Nat) (pw : Int32) (wb : Nat → Int32)  : he_I l yX5_breachesTold wsX5_breachesTold 0 0 0 0 g [.ref t0] [(oX5 t0 t1 t2 pw), (aI g t2 36 wb)] (fun (r : Int32) (u : Unit) => r = nI (cnF wb 36)) (fun (u : Unit) => [(oX5 t0 t1 t2 pw), (aI g t2 36 wb)]) := by
  refine he_begin (l := l) (g := g) (y := yX5_breachesTold) (wl := wsX5_breachesTold) (fr := 0) (lo := 0) (mc := 0) (ms := 0) (av := [.ref t0]) (ws := [(oX5 t0 t1 t2 pw), (aI g t2 36 wb)]) (cc := cX5_breachesTold) (maxL := 6) (ret := (some .int)) (fun A => va_Qi (fun (r : Int32) (u : Unit) => r = nI (cnF wb 36)) (fun u t => he_post g A ((fun (u : Unit) => [(oX5 t0 t1 t2 pw), (aI g t2 36 wb)]) u) t) A) (by decide) rfl (Nat.le_of_ble_eq_true rfl) ?_
  intro p e s m args below meth c A ls H locs Q hQ hB
  obtain ⟨hx, hb, hr, hml, hown, hts, hlk, hin, hP, hK, hD, hS, hA, hE, hl⟩ := hB
  have hl : lv_has ls 6 [(0, .ref t0)] := hl
  have f15 := hts (.fieldLink RX5 15 "HiredEnemy$Pact" "wallByMonth" "[I") (iwoX5_breachesTold (k := 0) rfl)
  have inX5 : ∀ w ∈ wsX50, w ∈ wsX5_breachesTold := innX5_breachesTold_X5
  refine lv_iconst (v := 0) hx hb dX5_breachesTold_0 (by decide) ?_
  refine lv_istore_n (lv' := [(1, .int 0), (0, .ref t0)]) hx hb dX5_breachesTold_1 rfl hl (by decide) rfl (fun ls hl => ?_)
  refine lv_aload_n hx hb dX5_breachesTold_2 rfl (lv_at hl 1 rfl) ?_
  refine va_get (v := .ref t2) (T := TX5) (N := 3) hx hb hts inX5 hown hK hP 0 rfl rfl 1 (by decide) f15 (fun _ h9 => h9) rfl dX5_breachesTold_3 ?_
  refine lv_astore_n (lv' := [(2, .ref t2), (1, .int 0), (0, .ref t0)]) hx hb dX5_breachesTold_6 rfl hl (by decide) rfl (fun ls hl => ?_)
  refine lv_aload_n hx hb dX5_breachesTold_7 rfl (lv_at hl 0 rfl) ?_
  refine va_alen (v := 36) hx hb hK hP 1 1 rfl rfl rfl dX5_breachesTold_8 ?_
  refine lv_istore_n (lv' := [(3, .int 36), (2, .ref t2), (1, .int 0), (0, .ref t0)]) hx hb dX5_breachesTold_9 rfl hl (by decide) rfl (fun ls hl => ?_)
  refine lv_iconst (v := 0) hx hb dX5_breachesTold_10 (by decide) ?_
  refine lv_istore (lv' := [(4, .int 0), (3, .int 36), (2, .ref t2), (1, .int 0), (0, .ref t0)]) hx hb dX5_breachesTold_11 hl (by decide) rfl (fun ls hl => ?_)
  have loop13 : ∀ (n9 : Nat) (j : Nat) (b : Nat), 36 - j < n9 → (j ≤ 36) → (b = cnF wb j) → ∀ (H : Heap) (locs : List Loc) (ls : Array Slot), va_P g.1 vwCl [(oX5 t0 t1 t2 pw), (aI g t2 36 wb)] H → va_D A [(oX5 t0 t1 t2 pw), (aI g t2 36 wb)] → va_S A s.heap H locs → lv_has ls 6 [(0, .ref t0), (1, .int (nI b)), (2, .ref t2), (3, .int 36), (4, .int (nI j))] → W p l e (he_room 0 0 0 0) s m args below meth c H locs 0 0 Q (F0 m 13 ls []) := by
    intro n9
    induction n9 with
    | zero => intro j b hm9; exact absurd hm9 (Nat.not_lt_zero _)
    | succ n9 ih13 =>
      intro j b hm9 hj hbk H locs ls hP hD hS hl
      refine lv_iload hx hb dX5_breachesTold_13 (lv_at hl 4 rfl) ?_
      refine lv_iload_n hx hb dX5_breachesTold_15 rfl (lv_at hl 3 rfl) ?_
      refine lv_icmp_ge (tgt := 40) hx hb dX5_breachesTold_16 (by decide) (fun c_1 => ?_) (fun c_1 => ?_)
      · have k_2 : 36 ≤ j := (he_cle (a := 36) (b := j) (by decide) rfl (by omega) (by omega)).mp c_1
        refine lv_iload_n hx hb dX5_breachesTold_40 rfl (lv_at hl 1 rfl) ?_
        exact he_ri hQ hx hb hr hlk hP hD hS dX5_breachesTold_41 (Nat.le_of_ble_eq_true rfl) (Nat.le_of_ble_eq_true rfl) (()) (rfl) (congrArg nI (by rw [hbk, show j = 36 by omega]))
      · have k_3 : ¬ (36 ≤ j) := fun h9 => c_1 ((he_cle (a := 36) (b := j) (by decide) rfl (by omega) (by omega)).mpr h9)
        refine lv_aload_n hx hb dX5_breachesTold_19 rfl (lv_at hl 2 rfl) ?_
        refine lv_iload hx hb dX5_breachesTold_20 (lv_at hl 4 rfl) ?_
        refine he_iald hx hb hK hP 1 rfl (j) rfl (by first | assumption | decide | omega) (by first | decide | assumption) (wb j) rfl dX5_breachesTold_22 ?_
        refine lv_istore (lv' := [(5, .int (wb j)), (0, .ref t0), (1, .int (nI b)), (2, .ref t2), (3, .int 36), (4, .int (nI j))]) hx hb dX5_breachesTold_23 hl (by decide) rfl (fun ls hl => ?_)
        refine lv_iload hx hb dX5_breachesTold_25 (lv_at hl 0 rfl) ?_
        refine lv_iconst (v := (-1)) hx hb dX5_breachesTold_27 (by decide) ?_
        refine lv_icmp_eq (tgt := 34) hx hb dX5_breachesTold_28 (by decide) (fun c_4 => ?_) (fun c_4 => ?_)
        · refine lv_iinc (v := nI (j + 1)) (lv' := [(4, .int (nI (j + 1))), (5, .int (wb j)), (0, .ref t0), (1, .int (nI b)), (2, .ref t2), (3, .int 36)]) hx hb dX5_breachesTold_34 hl (k := 5) rfl (nI_1 j) (by decide) rfl (fun ls hl => ?_)
          refine lv_goto (tgt := 13) hx hb dX5_breachesTold_37 (by decide) ?_
          exact ih13 (j + 1) b (by omega) (by omega) (hbk.trans (cnF_e c_4).symm) _ _ _ hP hD hS (lv_sub hl [2, 3, 4, 5, 0] rfl)
        · refine lv_iinc (v := nI (b + 1)) (lv' := [(1, .int (nI (b + 1))), (5, .int (wb j)), (0, .ref t0), (2, .ref t2), (3, .int 36), (4, .int (nI j))]) hx hb dX5_breachesTold_31 hl (k := 2) rfl (nI_1 b) (by decide) rfl (fun ls hl => ?_)
          refine lv_iinc (v := nI (j + 1)) (lv' := [(4, .int (nI (j + 1))), (1, .int (nI (b + 1))), (5, .int (wb j)), (0, .ref t0), (2, .ref t2), (3, .int 36)]) hx hb dX5_breachesTold_34 hl (k := 5) rfl (nI_1 j) (by decide) rfl (fun ls hl => ?_)
          refine lv_goto (tgt := 13) hx hb dX5_breachesTold_37 (by decide) ?_
          exact ih13 (j + 1) (b + 1) (by omega) (by omega) (by rw [cnF_n c_4, ← hbk]) _ _ _ hP hD hS (lv_sub hl [3, 1, 4, 5, 0] rfl)
  exact loop13 ((36 - 0) + 1) 0 0 (Nat.lt_succ_self _) (Nat.zero_le _) rfl _ _ _ hP hD hS (lv_sub hl [4, 3, 2, 1, 0] rfl)
set_option maxHeartbeats 4000000 in
set_option maxRecDepth 100000 in
theorem s_X5_answer (l : Launch) (g : he_G) (t0 : Nat) (t1 : Nat) (t2 : Nat) (pw : Int32) (pd : Nat → Int32) (wb : Nat → Int32) (k : Nat) (hk : k ≤ 6) : he_I l yX5_answer wsX5_answer 1 25 0 0 g [.ref t0, .int (nI k)] [(oX5 t0 t1 t2 pw), (aI g t1 6 pd), (aI g t2 36 wb)] (fun (r : Int32) (u : Unit) => r = rlA pd wb k) (fun (u : Unit) => [(oX5 t0 t1 t2 pw), (aI g t1 6 pd), (aI g t2 36 wb)]) := by
  refine he_begin (l := l) (g := g) (y := yX5_answer) (wl := wsX5_answer) (fr := 1) (lo := 25) (mc := 0) (ms := 0) (av := [.ref t0, .int (nI k)]) (ws := [(oX5 t0 t1 t2 pw), (aI g t1 6 pd), (aI g t2 36 wb)]) (cc := cX5_answer) (maxL := 2) (ret := (some .int)) (fun A => va_Qi (fun (r : Int32) (u : Unit) => r = rlA pd wb k) (fun u t => he_post g A ((fun (u : Unit) => [(oX5 t0 t1 t2 pw), (aI g t1 6 pd), (aI g t2 36 wb)]) u) t) A) (by decide) rfl (Nat.le_of_ble_eq_true rfl) ?_
  intro p e s m args below meth c A ls H locs Q hQ hB
  obtain ⟨hx, hb, hr, hml, hown, hts, hlk, hin, hP, hK, hD, hS, hA, hE, hl⟩ := hB
  have hl : lv_has ls 2 [(0, .ref t0), (1, .int (nI k))] := hl
  have f11 := hts (.fieldLink RX5 11 "HiredEnemy$Pact" "said" "[I") (iwoX5_answer (k := 0) rfl)
  have inX5 : ∀ w ∈ wsX50, w ∈ wsX5_answer := innX5_answer_X5
  refine lv_iload_n hx hb dX5_answer_0 rfl (lv_at hl 1 rfl) ?_
  refine lv_bipush (v := 6) hx hb dX5_answer_1 (by decide) ?_
  refine lv_icmp_ne (tgt := 11) hx hb dX5_answer_3 (by decide) (fun c_1 => ?_) (fun c_1 => ?_)
  · have k_2 : ¬ (k = 6) := fun h9 => c_1 ((he_ceq (a := k) (b := 6) rfl (by decide) (by omega) (by omega)).mpr h9)
    refine lv_iload_n hx hb dX5_answer_11 rfl (lv_at hl 1 rfl) ?_
    refine lv_iconst (v := 1) hx hb dX5_answer_12 (by decide) ?_
    refine lv_icmp_ne (tgt := 23) hx hb dX5_answer_13 (by decide) (fun c_3 => ?_) (fun c_3 => ?_)
    · have k_4 : ¬ (k = 1) := fun h9 => c_3 ((he_ceq (a := k) (b := 1) rfl (by decide) (by omega) (by omega)).mpr h9)
      refine lv_aload_n hx hb dX5_answer_23 rfl (lv_at hl 0 rfl) ?_
      refine va_get (v := .ref t1) (T := TX5) (N := 3) hx hb hts inX5 hown hK hP 0 rfl rfl 0 (by decide) f11 (fun _ h9 => h9) rfl dX5_answer_24 ?_
      refine lv_iload_n hx hb dX5_answer_27 rfl (lv_at hl 1 rfl) ?_
      refine he_iald hx hb hK hP 1 rfl (k) rfl (by first | assumption | decide | omega) (by first | decide | assumption) (pd k) rfl dX5_answer_28 ?_
      exact he_ri hQ hx hb hr hlk hP hD hS dX5_answer_29 (Nat.le_of_ble_eq_true rfl) (Nat.le_of_ble_eq_true rfl) (()) (rfl) ((by unfold rlA; rw [if_neg (by omega), if_neg (by omega)]))
    · have k_5 : k = 1 := (he_ceq (a := k) (b := 1) rfl (by decide) (by omega) (by omega)).mp c_3
      refine lv_aload_n hx hb dX5_answer_16 rfl (lv_at hl 0 rfl) ?_
      refine he_ci (wc := [(oX5 t0 t1 t2 pw), (aI g t1 6 pd)]) (wr := [(aI g t2 36 wb)]) (va_runV (As := []) (rest := []) ⟨hx, hb, hml, hown, hts⟩ (c_X5_winterPay l g t0 t1 t2 pw pd H.size) (cwV 0 hts gX5_answer_X5_winterPay rfl rfl rfl (by decide +kernel) ⟨Nat.le_of_ble_eq_true rfl, Nat.le_of_ble_eq_true rfl⟩) (he_preV (wc := [(oX5 t0 t1 t2 pw), (aI g t1 6 pd)]) hK hP hD hS hA hE [0, 1] rfl rfl 0 rfl rfl) rfl rfl hl.1 rfl (lv_room (Nat.le_of_ble_eq_true rfl)) dX5_answer_17 ⟨(Nat.le_of_ble_eq_true rfl), (Nat.le_of_ble_eq_true rfl)⟩) hP hD hS hA [0, 1] [2] rfl rfl rfl (by decide) (fun r_6 u_7 H locs h_8 hP hD hS => ?_)
      subst h_8
      have hP : va_P g.1 vwCl [(aI g t2 36 wb), (oX5 t0 t1 t2 pw), (aI g t1 6 pd)] H := hP
      have hD : va_D A [(aI g t2 36 wb), (oX5 t0 t1 t2 pw), (aI g t1 6 pd)] := hD
      refine lv_goto (tgt := 29) hx hb dX5_answer_20 (by decide) ?_
      have hP := hP.sub (ws' := [(oX5 t0 t1 t2 pw), (aI g t1 6 pd), (aI g t2 36 wb)]) [1, 2, 0] rfl
      have hD := hD.sub (ws' := [(oX5 t0 t1 t2 pw), (aI g t1 6 pd), (aI g t2 36 wb)]) [1, 2, 0] (by decide) rfl
      exact he_ri hQ hx hb hr hlk hP hD hS dX5_answer_29 (Nat.le_of_ble_eq_true rfl) (Nat.le_of_ble_eq_true rfl) (()) (rfl) ((by unfold rlA; rw [if_neg (by omega), if_pos (by omega)]))
  · have k_9 : k = 6 := (he_ceq (a := k) (b := 6) rfl (by decide) (by omega) (by omega)).mp c_1
    refine lv_aload_n hx hb dX5_answer_6 rfl (lv_at hl 0 rfl) ?_
    refine he_ci (wc := [(oX5 t0 t1 t2 pw), (aI g t2 36 wb)]) (wr := [(aI g t1 6 pd)]) (va_runV (As := []) (rest := []) ⟨hx, hb, hml, hown, hts⟩ (s_X5_breachesTold l g t0 t1 t2 pw wb H.size) (cwV 0 hts gX5_answer_X5_breachesTold rfl rfl rfl (by decide +kernel) ⟨Nat.le_of_ble_eq_true rfl, Nat.le_of_ble_eq_true rfl⟩) (he_preV (wc := [(oX5 t0 t1 t2 pw), (aI g t2 36 wb)]) hK hP hD hS hA hE [0, 2] rfl rfl 0 rfl rfl) rfl rfl hl.1 rfl (lv_room (Nat.le_of_ble_eq_true rfl)) dX5_answer_7 ⟨(Nat.le_of_ble_eq_true rfl), (Nat.le_of_ble_eq_true rfl)⟩) hP hD hS hA [0, 2] [1] rfl rfl rfl (by decide) (fun r_10 u_11 H locs h_12 hP hD hS => ?_)
    subst h_12
    have hP : va_P g.1 vwCl [(aI g t1 6 pd), (oX5 t0 t1 t2 pw), (aI g t2 36 wb)] H := hP
    have hD : va_D A [(aI g t1 6 pd), (oX5 t0 t1 t2 pw), (aI g t2 36 wb)] := hD
    have hP := hP.sub (ws' := [(oX5 t0 t1 t2 pw), (aI g t1 6 pd), (aI g t2 36 wb)]) [1, 0, 2] rfl
    have hD := hD.sub (ws' := [(oX5 t0 t1 t2 pw), (aI g t1 6 pd), (aI g t2 36 wb)]) [1, 0, 2] (by decide) rfl
    exact he_ri hQ hx hb hr hlk hP hD hS dX5_answer_10 (Nat.le_of_ble_eq_true rfl) (Nat.le_of_ble_eq_true rfl) (()) (rfl) ((by unfold rlA; rw [if_pos (by omega)]))
set_option maxHeartbeats 4000000 in
set_option maxRecDepth 100000 in
theorem s_X10_told0 (l : Launch) (g : he_G) (x0 : Nat) (y0 : Nat) (z0 : Nat) (dr : Nat) (pa : Nat) (s0 : Nat) (im : Nat) (tr : Nat) (v0 : Nat) (rf : Nat) (ta : Int32) (to_ : Int32) (ki : Int32) (p0 : Nat) (p1 : Nat) (p2 : Nat) (p3 : Nat) (p4 : Nat) (w : Int32) (a0 : Nat) (b0 : Nat) (e0 : Nat) (h0 : Nat) (q0 : Nat) (q1 : Nat) (mo : Int32) (f : Nat → Int32)  : he_I l yX10_told wsX10_told 1 22 0 0 g [.ref x0, .int 0] [(oX10 x0 y0 ta z0 p0 dr pa to_ s0 im ki tr v0 rf), (oX6 p0 p1 p2 p3 p4 w), (oX8 s0 h0 a0 b0 e0), (oX4 h0 q0 q1 mo), (aI g q0 24 f)] (fun (r : Int32) (u : Unit) => r = w) (fun (u : Unit) => [(oX10 x0 y0 ta z0 p0 dr pa to_ s0 im ki tr v0 rf), (oX6 p0 p1 p2 p3 p4 w), (oX8 s0 h0 a0 b0 e0), (oX4 h0 q0 q1 mo), (aI g q0 24 f)]) := by
  refine he_begin (l := l) (g := g) (y := yX10_told) (wl := wsX10_told) (fr := 1) (lo := 22) (mc := 0) (ms := 0) (av := [.ref x0, .int 0]) (ws := [(oX10 x0 y0 ta z0 p0 dr pa to_ s0 im ki tr v0 rf), (oX6 p0 p1 p2 p3 p4 w), (oX8 s0 h0 a0 b0 e0), (oX4 h0 q0 q1 mo), (aI g q0 24 f)]) (cc := cX10_told) (maxL := 4) (ret := (some .int)) (fun A => va_Qi (fun (r : Int32) (u : Unit) => r = w) (fun u t => he_post g A ((fun (u : Unit) => [(oX10 x0 y0 ta z0 p0 dr pa to_ s0 im ki tr v0 rf), (oX6 p0 p1 p2 p3 p4 w), (oX8 s0 h0 a0 b0 e0), (oX4 h0 q0 q1 mo), (aI g q0 24 f)]) u) t) A) (by decide) rfl (Nat.le_of_ble_eq_true rfl) ?_
  intro p e s m args below meth c A ls H locs Q hQ hB
  obtain ⟨hx, hb, hr, hml, hown, hts, hlk, hin, hP, hK, hD, hS, hA, hE, hl⟩ := hB
  have hl : lv_has ls 4 [(0, .ref x0), (1, .int 0)] := hl
  have f39 := hts (.fieldLink RX10 39 "HiredEnemy" "scene" "LHiredEnemy$Scene;") (iwoX10_told (k := 0) rfl)
  have inX10 : ∀ w ∈ wsX100, w ∈ wsX10_told := innX10_told_X10
  have f66 := hts (.fieldLink RX10 66 "HiredEnemy$Scene" "course" "LHiredEnemy$Course;") (iwoX10_told (k := 1) rfl)
  have inX8 : ∀ w ∈ wsX80, w ∈ wsX10_told := innX10_told_X8
  have f111 := hts (.fieldLink RX10 111 "HiredEnemy$Course" "now" "[I") (iwoX10_told (k := 2) rfl)
  have inX4 : ∀ w ∈ wsX40, w ∈ wsX10_told := innX10_told_X4
  have f23 := hts (.fieldLink RX10 23 "HiredEnemy" "plan" "LHiredEnemy$Plan;") (iwoX10_told (k := 3) rfl)
  have f99 := hts (.fieldLink RX10 99 "HiredEnemy$Plan" "walls" "I") (iwoX10_told (k := 4) rfl)
  have inX6 : ∀ w ∈ wsX60, w ∈ wsX10_told := innX10_told_X6
  refine lv_aload_n hx hb dX10_told_0 rfl (lv_at hl 0 rfl) ?_
  refine lv_iload_n hx hb dX10_told_1 rfl (lv_at hl 1 rfl) ?_
  refine lv_iconst (v := 0) hx hb dX10_told_2 (by decide) ?_
  refine lv_iconst (v := 4) hx hb dX10_told_3 (by decide) ?_
  refine he_ci (wc := []) (wr := [(oX10 x0 y0 ta z0 p0 dr pa to_ s0 im ki tr v0 rf), (oX6 p0 p1 p2 p3 p4 w), (oX8 s0 h0 a0 b0 e0), (oX4 h0 q0 q1 mo), (aI g q0 24 f)]) (va_runS (As := [.int 0, .int 0, .int 4]) (rest := [.ref x0]) ⟨hx, hb, hml, hown, hts⟩ (c_X10_within l g 0 0 4 H.size) (va_cwS 3 hts gX10_told_X10_within rfl rfl rfl (by decide +kernel) ⟨Nat.le_of_ble_eq_true rfl, Nat.le_of_ble_eq_true rfl⟩) (he_preS (wc := []) hK hP hD hS hA hE [] rfl rfl) rfl rfl hl.1 rfl (lv_room (Nat.le_of_ble_eq_true rfl)) dX10_told_4 ⟨(Nat.le_of_ble_eq_true rfl), (Nat.le_of_ble_eq_true rfl)⟩) hP hD hS hA [] [0, 1, 2, 3, 4] rfl rfl rfl (by decide) (fun r_1 u_2 H locs h_3 hP hD hS => ?_)
  subst h_3
  have hP : va_P g.1 vwCl [(oX10 x0 y0 ta z0 p0 dr pa to_ s0 im ki tr v0 rf), (oX6 p0 p1 p2 p3 p4 w), (oX8 s0 h0 a0 b0 e0), (oX4 h0 q0 q1 mo), (aI g q0 24 f)] H := hP
  have hD : va_D A [(oX10 x0 y0 ta z0 p0 dr pa to_ s0 im ki tr v0 rf), (oX6 p0 p1 p2 p3 p4 w), (oX8 s0 h0 a0 b0 e0), (oX4 h0 q0 q1 mo), (aI g q0 24 f)] := hD
  refine he_top (1) (by decide) ?_
  refine he_cv (wc := []) (wr := [(oX10 x0 y0 ta z0 p0 dr pa to_ s0 im ki tr v0 rf), (oX6 p0 p1 p2 p3 p4 w), (oX8 s0 h0 a0 b0 e0), (oX4 h0 q0 q1 mo), (aI g q0 24 f)]) (va_runV (As := [.int 1]) (rest := []) ⟨hx, hb, hml, hown, hts⟩ (c_X10_demand1 l g x0 H.size) (cwV 1 hts gX10_told_X10_demand rfl rfl rfl (by decide +kernel) ⟨Nat.le_of_ble_eq_true rfl, Nat.le_of_ble_eq_true rfl⟩) (he_preV (wc := []) hK hP hD hS hA hE [] rfl rfl 0 rfl rfl) rfl rfl hl.1 rfl (lv_room (Nat.le_of_ble_eq_true rfl)) dX10_told_7 ⟨(Nat.le_of_ble_eq_true rfl), (Nat.le_of_ble_eq_true rfl)⟩) hP hD hS hA [] [0, 1, 2, 3, 4] rfl rfl rfl (by decide) (fun u_5 H locs h_6 hP hD hS => ?_)
  have hP : va_P g.1 vwCl [(oX10 x0 y0 ta z0 p0 dr pa to_ s0 im ki tr v0 rf), (oX6 p0 p1 p2 p3 p4 w), (oX8 s0 h0 a0 b0 e0), (oX4 h0 q0 q1 mo), (aI g q0 24 f)] H := hP
  have hD : va_D A [(oX10 x0 y0 ta z0 p0 dr pa to_ s0 im ki tr v0 rf), (oX6 p0 p1 p2 p3 p4 w), (oX8 s0 h0 a0 b0 e0), (oX4 h0 q0 q1 mo), (aI g q0 24 f)] := hD
  refine lv_aload_n hx hb dX10_told_10 rfl (lv_at hl 0 rfl) ?_
  refine va_get (v := .ref s0) (T := TX10) (N := 13) hx hb hts inX10 hown hK hP 0 rfl rfl 7 (by decide) f39 (fun _ h9 => h9) rfl dX10_told_11 ?_
  refine va_get (v := .ref h0) (T := TX8) (N := 4) hx hb hts inX8 hown hK hP 2 rfl rfl 0 (by decide) f66 (fun _ h9 => h9) rfl dX10_told_14 ?_
  refine lv_astore_n (lv' := [(2, .ref h0), (0, .ref x0), (1, .int 0)]) hx hb dX10_told_17 rfl hl (by decide) rfl (fun ls hl => ?_)
  refine lv_aload_n hx hb dX10_told_18 rfl (lv_at hl 0 rfl) ?_
  refine va_get (v := .ref q0) (T := TX4) (N := 3) hx hb hts inX4 hown hK hP 3 rfl rfl 0 (by decide) f111 (fun _ h9 => h9) rfl dX10_told_19 ?_
  refine lv_bipush (v := 10) hx hb dX10_told_22 (by decide) ?_
  refine he_iald hx hb hK hP 4 rfl (10) (by decide) (by decide) (by first | decide | assumption) (f 10) rfl dX10_told_24 ?_
  refine lv_istore_n (lv' := [(3, .int (f 10)), (2, .ref h0), (0, .ref x0), (1, .int 0)]) hx hb dX10_told_25 rfl hl (by decide) rfl (fun ls hl => ?_)
  refine lv_iload_n hx hb dX10_told_26 rfl (lv_at hl 3 rfl) ?_
  refine lv_tableIn (tgt := 56) hx hb dX10_told_27 (by decide) (by decide) rfl (by decide) ?_
  refine lv_aload_n hx hb dX10_told_56 rfl (lv_at hl 2 rfl) ?_
  refine va_get (v := .ref p0) (T := TX10) (N := 13) hx hb hts inX10 hown hK hP 0 rfl rfl 3 (by decide) f23 (fun _ h9 => h9) rfl dX10_told_57 ?_
  refine va_get (v := .int w) (T := TX6) (N := 5) hx hb hts inX6 hown hK hP 1 rfl rfl 4 (by decide) f99 (fun _ h9 => h9) rfl dX10_told_60 ?_
  exact he_ri hQ hx hb hr hlk hP hD hS dX10_told_63 (Nat.le_of_ble_eq_true rfl) (Nat.le_of_ble_eq_true rfl) (()) (rfl) (rfl)
set_option maxHeartbeats 4000000 in
set_option maxRecDepth 100000 in
theorem s_X10_told1 (l : Launch) (g : he_G) (x0 : Nat) (y0 : Nat) (z0 : Nat) (dr : Nat) (pa : Nat) (s0 : Nat) (im : Nat) (tr : Nat) (v0 : Nat) (rf : Nat) (ta : Int32) (to_ : Int32) (ki : Int32) (p0 : Nat) (p1 : Nat) (p2 : Nat) (p3 : Nat) (p4 : Nat) (w : Int32) (a0 : Nat) (b0 : Nat) (e0 : Nat) (h0 : Nat) (q0 : Nat) (q1 : Nat) (mo : Int32) (f : Nat → Int32)  : he_I l yX10_told wsX10_told 1 22 0 0 g [.ref x0, .int 1] [(oX10 x0 y0 ta z0 p0 dr pa to_ s0 im ki tr v0 rf), (oX6 p0 p1 p2 p3 p4 w), (oX8 s0 h0 a0 b0 e0), (oX4 h0 q0 q1 mo), (aI g q0 24 f)] (fun (r : Int32) (u : Unit) => r = to_) (fun (u : Unit) => [(oX10 x0 y0 ta z0 p0 dr pa to_ s0 im ki tr v0 rf), (oX6 p0 p1 p2 p3 p4 w), (oX8 s0 h0 a0 b0 e0), (oX4 h0 q0 q1 mo), (aI g q0 24 f)]) := by
  refine he_begin (l := l) (g := g) (y := yX10_told) (wl := wsX10_told) (fr := 1) (lo := 22) (mc := 0) (ms := 0) (av := [.ref x0, .int 1]) (ws := [(oX10 x0 y0 ta z0 p0 dr pa to_ s0 im ki tr v0 rf), (oX6 p0 p1 p2 p3 p4 w), (oX8 s0 h0 a0 b0 e0), (oX4 h0 q0 q1 mo), (aI g q0 24 f)]) (cc := cX10_told) (maxL := 4) (ret := (some .int)) (fun A => va_Qi (fun (r : Int32) (u : Unit) => r = to_) (fun u t => he_post g A ((fun (u : Unit) => [(oX10 x0 y0 ta z0 p0 dr pa to_ s0 im ki tr v0 rf), (oX6 p0 p1 p2 p3 p4 w), (oX8 s0 h0 a0 b0 e0), (oX4 h0 q0 q1 mo), (aI g q0 24 f)]) u) t) A) (by decide) rfl (Nat.le_of_ble_eq_true rfl) ?_
  intro p e s m args below meth c A ls H locs Q hQ hB
  obtain ⟨hx, hb, hr, hml, hown, hts, hlk, hin, hP, hK, hD, hS, hA, hE, hl⟩ := hB
  have hl : lv_has ls 4 [(0, .ref x0), (1, .int 1)] := hl
  have f39 := hts (.fieldLink RX10 39 "HiredEnemy" "scene" "LHiredEnemy$Scene;") (iwoX10_told (k := 0) rfl)
  have inX10 : ∀ w ∈ wsX100, w ∈ wsX10_told := innX10_told_X10
  have f66 := hts (.fieldLink RX10 66 "HiredEnemy$Scene" "course" "LHiredEnemy$Course;") (iwoX10_told (k := 1) rfl)
  have inX8 : ∀ w ∈ wsX80, w ∈ wsX10_told := innX10_told_X8
  have f111 := hts (.fieldLink RX10 111 "HiredEnemy$Course" "now" "[I") (iwoX10_told (k := 2) rfl)
  have inX4 : ∀ w ∈ wsX40, w ∈ wsX10_told := innX10_told_X4
  have f92 := hts (.fieldLink RX10 92 "HiredEnemy" "pactsTold" "I") (iwoX10_told (k := 5) rfl)
  refine lv_aload_n hx hb dX10_told_0 rfl (lv_at hl 0 rfl) ?_
  refine lv_iload_n hx hb dX10_told_1 rfl (lv_at hl 1 rfl) ?_
  refine lv_iconst (v := 0) hx hb dX10_told_2 (by decide) ?_
  refine lv_iconst (v := 4) hx hb dX10_told_3 (by decide) ?_
  refine he_ci (wc := []) (wr := [(oX10 x0 y0 ta z0 p0 dr pa to_ s0 im ki tr v0 rf), (oX6 p0 p1 p2 p3 p4 w), (oX8 s0 h0 a0 b0 e0), (oX4 h0 q0 q1 mo), (aI g q0 24 f)]) (va_runS (As := [.int 1, .int 0, .int 4]) (rest := [.ref x0]) ⟨hx, hb, hml, hown, hts⟩ (c_X10_within l g 1 0 4 H.size) (va_cwS 3 hts gX10_told_X10_within rfl rfl rfl (by decide +kernel) ⟨Nat.le_of_ble_eq_true rfl, Nat.le_of_ble_eq_true rfl⟩) (he_preS (wc := []) hK hP hD hS hA hE [] rfl rfl) rfl rfl hl.1 rfl (lv_room (Nat.le_of_ble_eq_true rfl)) dX10_told_4 ⟨(Nat.le_of_ble_eq_true rfl), (Nat.le_of_ble_eq_true rfl)⟩) hP hD hS hA [] [0, 1, 2, 3, 4] rfl rfl rfl (by decide) (fun r_1 u_2 H locs h_3 hP hD hS => ?_)
  subst h_3
  have hP : va_P g.1 vwCl [(oX10 x0 y0 ta z0 p0 dr pa to_ s0 im ki tr v0 rf), (oX6 p0 p1 p2 p3 p4 w), (oX8 s0 h0 a0 b0 e0), (oX4 h0 q0 q1 mo), (aI g q0 24 f)] H := hP
  have hD : va_D A [(oX10 x0 y0 ta z0 p0 dr pa to_ s0 im ki tr v0 rf), (oX6 p0 p1 p2 p3 p4 w), (oX8 s0 h0 a0 b0 e0), (oX4 h0 q0 q1 mo), (aI g q0 24 f)] := hD
  refine he_top (1) (by decide) ?_
  refine he_cv (wc := []) (wr := [(oX10 x0 y0 ta z0 p0 dr pa to_ s0 im ki tr v0 rf), (oX6 p0 p1 p2 p3 p4 w), (oX8 s0 h0 a0 b0 e0), (oX4 h0 q0 q1 mo), (aI g q0 24 f)]) (va_runV (As := [.int 1]) (rest := []) ⟨hx, hb, hml, hown, hts⟩ (c_X10_demand1 l g x0 H.size) (cwV 1 hts gX10_told_X10_demand rfl rfl rfl (by decide +kernel) ⟨Nat.le_of_ble_eq_true rfl, Nat.le_of_ble_eq_true rfl⟩) (he_preV (wc := []) hK hP hD hS hA hE [] rfl rfl 0 rfl rfl) rfl rfl hl.1 rfl (lv_room (Nat.le_of_ble_eq_true rfl)) dX10_told_7 ⟨(Nat.le_of_ble_eq_true rfl), (Nat.le_of_ble_eq_true rfl)⟩) hP hD hS hA [] [0, 1, 2, 3, 4] rfl rfl rfl (by decide) (fun u_5 H locs h_6 hP hD hS => ?_)
  have hP : va_P g.1 vwCl [(oX10 x0 y0 ta z0 p0 dr pa to_ s0 im ki tr v0 rf), (oX6 p0 p1 p2 p3 p4 w), (oX8 s0 h0 a0 b0 e0), (oX4 h0 q0 q1 mo), (aI g q0 24 f)] H := hP
  have hD : va_D A [(oX10 x0 y0 ta z0 p0 dr pa to_ s0 im ki tr v0 rf), (oX6 p0 p1 p2 p3 p4 w), (oX8 s0 h0 a0 b0 e0), (oX4 h0 q0 q1 mo), (aI g q0 24 f)] := hD
  refine lv_aload_n hx hb dX10_told_10 rfl (lv_at hl 0 rfl) ?_
  refine va_get (v := .ref s0) (T := TX10) (N := 13) hx hb hts inX10 hown hK hP 0 rfl rfl 7 (by decide) f39 (fun _ h9 => h9) rfl dX10_told_11 ?_
  refine va_get (v := .ref h0) (T := TX8) (N := 4) hx hb hts inX8 hown hK hP 2 rfl rfl 0 (by decide) f66 (fun _ h9 => h9) rfl dX10_told_14 ?_
  refine lv_astore_n (lv' := [(2, .ref h0), (0, .ref x0), (1, .int 1)]) hx hb dX10_told_17 rfl hl (by decide) rfl (fun ls hl => ?_)
  refine lv_aload_n hx hb dX10_told_18 rfl (lv_at hl 0 rfl) ?_
  refine va_get (v := .ref q0) (T := TX4) (N := 3) hx hb hts inX4 hown hK hP 3 rfl rfl 0 (by decide) f111 (fun _ h9 => h9) rfl dX10_told_19 ?_
  refine lv_bipush (v := 10) hx hb dX10_told_22 (by decide) ?_
  refine he_iald hx hb hK hP 4 rfl (10) (by decide) (by decide) (by first | decide | assumption) (f 10) rfl dX10_told_24 ?_
  refine lv_istore_n (lv' := [(3, .int (f 10)), (2, .ref h0), (0, .ref x0), (1, .int 1)]) hx hb dX10_told_25 rfl hl (by decide) rfl (fun ls hl => ?_)
  refine lv_iload_n hx hb dX10_told_26 rfl (lv_at hl 3 rfl) ?_
  refine lv_tableIn (tgt := 64) hx hb dX10_told_27 (by decide) (by decide) rfl (by decide) ?_
  refine lv_aload_n hx hb dX10_told_64 rfl (lv_at hl 2 rfl) ?_
  refine va_get (v := .int to_) (T := TX10) (N := 13) hx hb hts inX10 hown hK hP 0 rfl rfl 6 (by decide) f92 (fun _ h9 => h9) rfl dX10_told_65 ?_
  exact he_ri hQ hx hb hr hlk hP hD hS dX10_told_68 (Nat.le_of_ble_eq_true rfl) (Nat.le_of_ble_eq_true rfl) (()) (rfl) (rfl)
set_option maxHeartbeats 4000000 in
set_option maxRecDepth 100000 in
theorem s_X10_told2 (l : Launch) (g : he_G) (x0 : Nat) (y0 : Nat) (z0 : Nat) (dr : Nat) (pa : Nat) (s0 : Nat) (im : Nat) (tr : Nat) (v0 : Nat) (rf : Nat) (ta : Int32) (to_ : Int32) (ki : Int32) (p0 : Nat) (p1 : Nat) (p2 : Nat) (p3 : Nat) (p4 : Nat) (w : Int32) (a0 : Nat) (b0 : Nat) (e0 : Nat) (h0 : Nat) (q0 : Nat) (q1 : Nat) (mo : Int32) (f : Nat → Int32)  : he_I l yX10_told wsX10_told 1 22 0 0 g [.ref x0, .int 2] [(oX10 x0 y0 ta z0 p0 dr pa to_ s0 im ki tr v0 rf), (oX6 p0 p1 p2 p3 p4 w), (oX8 s0 h0 a0 b0 e0), (oX4 h0 q0 q1 mo), (aI g q0 24 f)] (fun (r : Int32) (u : Unit) => r = mo) (fun (u : Unit) => [(oX10 x0 y0 ta z0 p0 dr pa to_ s0 im ki tr v0 rf), (oX6 p0 p1 p2 p3 p4 w), (oX8 s0 h0 a0 b0 e0), (oX4 h0 q0 q1 mo), (aI g q0 24 f)]) := by
  refine he_begin (l := l) (g := g) (y := yX10_told) (wl := wsX10_told) (fr := 1) (lo := 22) (mc := 0) (ms := 0) (av := [.ref x0, .int 2]) (ws := [(oX10 x0 y0 ta z0 p0 dr pa to_ s0 im ki tr v0 rf), (oX6 p0 p1 p2 p3 p4 w), (oX8 s0 h0 a0 b0 e0), (oX4 h0 q0 q1 mo), (aI g q0 24 f)]) (cc := cX10_told) (maxL := 4) (ret := (some .int)) (fun A => va_Qi (fun (r : Int32) (u : Unit) => r = mo) (fun u t => he_post g A ((fun (u : Unit) => [(oX10 x0 y0 ta z0 p0 dr pa to_ s0 im ki tr v0 rf), (oX6 p0 p1 p2 p3 p4 w), (oX8 s0 h0 a0 b0 e0), (oX4 h0 q0 q1 mo), (aI g q0 24 f)]) u) t) A) (by decide) rfl (Nat.le_of_ble_eq_true rfl) ?_
  intro p e s m args below meth c A ls H locs Q hQ hB
  obtain ⟨hx, hb, hr, hml, hown, hts, hlk, hin, hP, hK, hD, hS, hA, hE, hl⟩ := hB
  have hl : lv_has ls 4 [(0, .ref x0), (1, .int 2)] := hl
  have f39 := hts (.fieldLink RX10 39 "HiredEnemy" "scene" "LHiredEnemy$Scene;") (iwoX10_told (k := 0) rfl)
  have inX10 : ∀ w ∈ wsX100, w ∈ wsX10_told := innX10_told_X10
  have f66 := hts (.fieldLink RX10 66 "HiredEnemy$Scene" "course" "LHiredEnemy$Course;") (iwoX10_told (k := 1) rfl)
  have inX8 : ∀ w ∈ wsX80, w ∈ wsX10_told := innX10_told_X8
  have f111 := hts (.fieldLink RX10 111 "HiredEnemy$Course" "now" "[I") (iwoX10_told (k := 2) rfl)
  have inX4 : ∀ w ∈ wsX40, w ∈ wsX10_told := innX10_told_X4
  have f114 := hts (.fieldLink RX10 114 "HiredEnemy$Course" "month" "I") (iwoX10_told (k := 6) rfl)
  refine lv_aload_n hx hb dX10_told_0 rfl (lv_at hl 0 rfl) ?_
  refine lv_iload_n hx hb dX10_told_1 rfl (lv_at hl 1 rfl) ?_
  refine lv_iconst (v := 0) hx hb dX10_told_2 (by decide) ?_
  refine lv_iconst (v := 4) hx hb dX10_told_3 (by decide) ?_
  refine he_ci (wc := []) (wr := [(oX10 x0 y0 ta z0 p0 dr pa to_ s0 im ki tr v0 rf), (oX6 p0 p1 p2 p3 p4 w), (oX8 s0 h0 a0 b0 e0), (oX4 h0 q0 q1 mo), (aI g q0 24 f)]) (va_runS (As := [.int 2, .int 0, .int 4]) (rest := [.ref x0]) ⟨hx, hb, hml, hown, hts⟩ (c_X10_within l g 2 0 4 H.size) (va_cwS 3 hts gX10_told_X10_within rfl rfl rfl (by decide +kernel) ⟨Nat.le_of_ble_eq_true rfl, Nat.le_of_ble_eq_true rfl⟩) (he_preS (wc := []) hK hP hD hS hA hE [] rfl rfl) rfl rfl hl.1 rfl (lv_room (Nat.le_of_ble_eq_true rfl)) dX10_told_4 ⟨(Nat.le_of_ble_eq_true rfl), (Nat.le_of_ble_eq_true rfl)⟩) hP hD hS hA [] [0, 1, 2, 3, 4] rfl rfl rfl (by decide) (fun r_1 u_2 H locs h_3 hP hD hS => ?_)
  subst h_3
  have hP : va_P g.1 vwCl [(oX10 x0 y0 ta z0 p0 dr pa to_ s0 im ki tr v0 rf), (oX6 p0 p1 p2 p3 p4 w), (oX8 s0 h0 a0 b0 e0), (oX4 h0 q0 q1 mo), (aI g q0 24 f)] H := hP
  have hD : va_D A [(oX10 x0 y0 ta z0 p0 dr pa to_ s0 im ki tr v0 rf), (oX6 p0 p1 p2 p3 p4 w), (oX8 s0 h0 a0 b0 e0), (oX4 h0 q0 q1 mo), (aI g q0 24 f)] := hD
  refine he_top (1) (by decide) ?_
  refine he_cv (wc := []) (wr := [(oX10 x0 y0 ta z0 p0 dr pa to_ s0 im ki tr v0 rf), (oX6 p0 p1 p2 p3 p4 w), (oX8 s0 h0 a0 b0 e0), (oX4 h0 q0 q1 mo), (aI g q0 24 f)]) (va_runV (As := [.int 1]) (rest := []) ⟨hx, hb, hml, hown, hts⟩ (c_X10_demand1 l g x0 H.size) (cwV 1 hts gX10_told_X10_demand rfl rfl rfl (by decide +kernel) ⟨Nat.le_of_ble_eq_true rfl, Nat.le_of_ble_eq_true rfl⟩) (he_preV (wc := []) hK hP hD hS hA hE [] rfl rfl 0 rfl rfl) rfl rfl hl.1 rfl (lv_room (Nat.le_of_ble_eq_true rfl)) dX10_told_7 ⟨(Nat.le_of_ble_eq_true rfl), (Nat.le_of_ble_eq_true rfl)⟩) hP hD hS hA [] [0, 1, 2, 3, 4] rfl rfl rfl (by decide) (fun u_5 H locs h_6 hP hD hS => ?_)
  have hP : va_P g.1 vwCl [(oX10 x0 y0 ta z0 p0 dr pa to_ s0 im ki tr v0 rf), (oX6 p0 p1 p2 p3 p4 w), (oX8 s0 h0 a0 b0 e0), (oX4 h0 q0 q1 mo), (aI g q0 24 f)] H := hP
  have hD : va_D A [(oX10 x0 y0 ta z0 p0 dr pa to_ s0 im ki tr v0 rf), (oX6 p0 p1 p2 p3 p4 w), (oX8 s0 h0 a0 b0 e0), (oX4 h0 q0 q1 mo), (aI g q0 24 f)] := hD
  refine lv_aload_n hx hb dX10_told_10 rfl (lv_at hl 0 rfl) ?_
  refine va_get (v := .ref s0) (T := TX10) (N := 13) hx hb hts inX10 hown hK hP 0 rfl rfl 7 (by decide) f39 (fun _ h9 => h9) rfl dX10_told_11 ?_
  refine va_get (v := .ref h0) (T := TX8) (N := 4) hx hb hts inX8 hown hK hP 2 rfl rfl 0 (by decide) f66 (fun _ h9 => h9) rfl dX10_told_14 ?_
  refine lv_astore_n (lv' := [(2, .ref h0), (0, .ref x0), (1, .int 2)]) hx hb dX10_told_17 rfl hl (by decide) rfl (fun ls hl => ?_)
  refine lv_aload_n hx hb dX10_told_18 rfl (lv_at hl 0 rfl) ?_
  refine va_get (v := .ref q0) (T := TX4) (N := 3) hx hb hts inX4 hown hK hP 3 rfl rfl 0 (by decide) f111 (fun _ h9 => h9) rfl dX10_told_19 ?_
  refine lv_bipush (v := 10) hx hb dX10_told_22 (by decide) ?_
  refine he_iald hx hb hK hP 4 rfl (10) (by decide) (by decide) (by first | decide | assumption) (f 10) rfl dX10_told_24 ?_
  refine lv_istore_n (lv' := [(3, .int (f 10)), (2, .ref h0), (0, .ref x0), (1, .int 2)]) hx hb dX10_told_25 rfl hl (by decide) rfl (fun ls hl => ?_)
  refine lv_iload_n hx hb dX10_told_26 rfl (lv_at hl 3 rfl) ?_
  refine lv_tableIn (tgt := 69) hx hb dX10_told_27 (by decide) (by decide) rfl (by decide) ?_
  refine lv_aload_n hx hb dX10_told_69 rfl (lv_at hl 1 rfl) ?_
  refine va_get (v := .int mo) (T := TX4) (N := 3) hx hb hts inX4 hown hK hP 3 rfl rfl 2 (by decide) f114 (fun _ h9 => h9) rfl dX10_told_70 ?_
  exact he_ri hQ hx hb hr hlk hP hD hS dX10_told_73 (Nat.le_of_ble_eq_true rfl) (Nat.le_of_ble_eq_true rfl) (()) (rfl) (rfl)
set_option maxHeartbeats 4000000 in
set_option maxRecDepth 100000 in
theorem s_X10_told3 (l : Launch) (g : he_G) (x0 : Nat) (y0 : Nat) (z0 : Nat) (dr : Nat) (pa : Nat) (s0 : Nat) (im : Nat) (tr : Nat) (v0 : Nat) (rf : Nat) (ta : Int32) (to_ : Int32) (ki : Int32) (p0 : Nat) (p1 : Nat) (p2 : Nat) (p3 : Nat) (p4 : Nat) (w : Int32) (a0 : Nat) (b0 : Nat) (e0 : Nat) (h0 : Nat) (q0 : Nat) (q1 : Nat) (mo : Int32) (f : Nat → Int32)  : he_I l yX10_told wsX10_told 1 22 0 0 g [.ref x0, .int 3] [(oX10 x0 y0 ta z0 p0 dr pa to_ s0 im ki tr v0 rf), (oX6 p0 p1 p2 p3 p4 w), (oX8 s0 h0 a0 b0 e0), (oX4 h0 q0 q1 mo), (aI g q0 24 f)] (fun (r : Int32) (u : Unit) => r = f 10) (fun (u : Unit) => [(oX10 x0 y0 ta z0 p0 dr pa to_ s0 im ki tr v0 rf), (oX6 p0 p1 p2 p3 p4 w), (oX8 s0 h0 a0 b0 e0), (oX4 h0 q0 q1 mo), (aI g q0 24 f)]) := by
  refine he_begin (l := l) (g := g) (y := yX10_told) (wl := wsX10_told) (fr := 1) (lo := 22) (mc := 0) (ms := 0) (av := [.ref x0, .int 3]) (ws := [(oX10 x0 y0 ta z0 p0 dr pa to_ s0 im ki tr v0 rf), (oX6 p0 p1 p2 p3 p4 w), (oX8 s0 h0 a0 b0 e0), (oX4 h0 q0 q1 mo), (aI g q0 24 f)]) (cc := cX10_told) (maxL := 4) (ret := (some .int)) (fun A => va_Qi (fun (r : Int32) (u : Unit) => r = f 10) (fun u t => he_post g A ((fun (u : Unit) => [(oX10 x0 y0 ta z0 p0 dr pa to_ s0 im ki tr v0 rf), (oX6 p0 p1 p2 p3 p4 w), (oX8 s0 h0 a0 b0 e0), (oX4 h0 q0 q1 mo), (aI g q0 24 f)]) u) t) A) (by decide) rfl (Nat.le_of_ble_eq_true rfl) ?_
  intro p e s m args below meth c A ls H locs Q hQ hB
  obtain ⟨hx, hb, hr, hml, hown, hts, hlk, hin, hP, hK, hD, hS, hA, hE, hl⟩ := hB
  have hl : lv_has ls 4 [(0, .ref x0), (1, .int 3)] := hl
  have f39 := hts (.fieldLink RX10 39 "HiredEnemy" "scene" "LHiredEnemy$Scene;") (iwoX10_told (k := 0) rfl)
  have inX10 : ∀ w ∈ wsX100, w ∈ wsX10_told := innX10_told_X10
  have f66 := hts (.fieldLink RX10 66 "HiredEnemy$Scene" "course" "LHiredEnemy$Course;") (iwoX10_told (k := 1) rfl)
  have inX8 : ∀ w ∈ wsX80, w ∈ wsX10_told := innX10_told_X8
  have f111 := hts (.fieldLink RX10 111 "HiredEnemy$Course" "now" "[I") (iwoX10_told (k := 2) rfl)
  have inX4 : ∀ w ∈ wsX40, w ∈ wsX10_told := innX10_told_X4
  refine lv_aload_n hx hb dX10_told_0 rfl (lv_at hl 0 rfl) ?_
  refine lv_iload_n hx hb dX10_told_1 rfl (lv_at hl 1 rfl) ?_
  refine lv_iconst (v := 0) hx hb dX10_told_2 (by decide) ?_
  refine lv_iconst (v := 4) hx hb dX10_told_3 (by decide) ?_
  refine he_ci (wc := []) (wr := [(oX10 x0 y0 ta z0 p0 dr pa to_ s0 im ki tr v0 rf), (oX6 p0 p1 p2 p3 p4 w), (oX8 s0 h0 a0 b0 e0), (oX4 h0 q0 q1 mo), (aI g q0 24 f)]) (va_runS (As := [.int 3, .int 0, .int 4]) (rest := [.ref x0]) ⟨hx, hb, hml, hown, hts⟩ (c_X10_within l g 3 0 4 H.size) (va_cwS 3 hts gX10_told_X10_within rfl rfl rfl (by decide +kernel) ⟨Nat.le_of_ble_eq_true rfl, Nat.le_of_ble_eq_true rfl⟩) (he_preS (wc := []) hK hP hD hS hA hE [] rfl rfl) rfl rfl hl.1 rfl (lv_room (Nat.le_of_ble_eq_true rfl)) dX10_told_4 ⟨(Nat.le_of_ble_eq_true rfl), (Nat.le_of_ble_eq_true rfl)⟩) hP hD hS hA [] [0, 1, 2, 3, 4] rfl rfl rfl (by decide) (fun r_1 u_2 H locs h_3 hP hD hS => ?_)
  subst h_3
  have hP : va_P g.1 vwCl [(oX10 x0 y0 ta z0 p0 dr pa to_ s0 im ki tr v0 rf), (oX6 p0 p1 p2 p3 p4 w), (oX8 s0 h0 a0 b0 e0), (oX4 h0 q0 q1 mo), (aI g q0 24 f)] H := hP
  have hD : va_D A [(oX10 x0 y0 ta z0 p0 dr pa to_ s0 im ki tr v0 rf), (oX6 p0 p1 p2 p3 p4 w), (oX8 s0 h0 a0 b0 e0), (oX4 h0 q0 q1 mo), (aI g q0 24 f)] := hD
  refine he_top (1) (by decide) ?_
  refine he_cv (wc := []) (wr := [(oX10 x0 y0 ta z0 p0 dr pa to_ s0 im ki tr v0 rf), (oX6 p0 p1 p2 p3 p4 w), (oX8 s0 h0 a0 b0 e0), (oX4 h0 q0 q1 mo), (aI g q0 24 f)]) (va_runV (As := [.int 1]) (rest := []) ⟨hx, hb, hml, hown, hts⟩ (c_X10_demand1 l g x0 H.size) (cwV 1 hts gX10_told_X10_demand rfl rfl rfl (by decide +kernel) ⟨Nat.le_of_ble_eq_true rfl, Nat.le_of_ble_eq_true rfl⟩) (he_preV (wc := []) hK hP hD hS hA hE [] rfl rfl 0 rfl rfl) rfl rfl hl.1 rfl (lv_room (Nat.le_of_ble_eq_true rfl)) dX10_told_7 ⟨(Nat.le_of_ble_eq_true rfl), (Nat.le_of_ble_eq_true rfl)⟩) hP hD hS hA [] [0, 1, 2, 3, 4] rfl rfl rfl (by decide) (fun u_5 H locs h_6 hP hD hS => ?_)
  have hP : va_P g.1 vwCl [(oX10 x0 y0 ta z0 p0 dr pa to_ s0 im ki tr v0 rf), (oX6 p0 p1 p2 p3 p4 w), (oX8 s0 h0 a0 b0 e0), (oX4 h0 q0 q1 mo), (aI g q0 24 f)] H := hP
  have hD : va_D A [(oX10 x0 y0 ta z0 p0 dr pa to_ s0 im ki tr v0 rf), (oX6 p0 p1 p2 p3 p4 w), (oX8 s0 h0 a0 b0 e0), (oX4 h0 q0 q1 mo), (aI g q0 24 f)] := hD
  refine lv_aload_n hx hb dX10_told_10 rfl (lv_at hl 0 rfl) ?_
  refine va_get (v := .ref s0) (T := TX10) (N := 13) hx hb hts inX10 hown hK hP 0 rfl rfl 7 (by decide) f39 (fun _ h9 => h9) rfl dX10_told_11 ?_
  refine va_get (v := .ref h0) (T := TX8) (N := 4) hx hb hts inX8 hown hK hP 2 rfl rfl 0 (by decide) f66 (fun _ h9 => h9) rfl dX10_told_14 ?_
  refine lv_astore_n (lv' := [(2, .ref h0), (0, .ref x0), (1, .int 3)]) hx hb dX10_told_17 rfl hl (by decide) rfl (fun ls hl => ?_)
  refine lv_aload_n hx hb dX10_told_18 rfl (lv_at hl 0 rfl) ?_
  refine va_get (v := .ref q0) (T := TX4) (N := 3) hx hb hts inX4 hown hK hP 3 rfl rfl 0 (by decide) f111 (fun _ h9 => h9) rfl dX10_told_19 ?_
  refine lv_bipush (v := 10) hx hb dX10_told_22 (by decide) ?_
  refine he_iald hx hb hK hP 4 rfl (10) (by decide) (by decide) (by first | decide | assumption) (f 10) rfl dX10_told_24 ?_
  refine lv_istore_n (lv' := [(3, .int (f 10)), (2, .ref h0), (0, .ref x0), (1, .int 3)]) hx hb dX10_told_25 rfl hl (by decide) rfl (fun ls hl => ?_)
  refine lv_iload_n hx hb dX10_told_26 rfl (lv_at hl 3 rfl) ?_
  refine lv_tableIn (tgt := 74) hx hb dX10_told_27 (by decide) (by decide) rfl (by decide) ?_
  refine lv_iload_n hx hb dX10_told_74 rfl (lv_at hl 0 rfl) ?_
  exact he_ri hQ hx hb hr hlk hP hD hS dX10_told_75 (Nat.le_of_ble_eq_true rfl) (Nat.le_of_ble_eq_true rfl) (()) (rfl) (rfl)
set_option maxHeartbeats 4000000 in
set_option maxRecDepth 100000 in
theorem s_X10_told4 (l : Launch) (g : he_G) (x0 : Nat) (y0 : Nat) (z0 : Nat) (dr : Nat) (pa : Nat) (s0 : Nat) (im : Nat) (tr : Nat) (v0 : Nat) (rf : Nat) (ta : Int32) (to_ : Int32) (ki : Int32) (p0 : Nat) (p1 : Nat) (p2 : Nat) (p3 : Nat) (p4 : Nat) (w : Int32) (a0 : Nat) (b0 : Nat) (e0 : Nat) (h0 : Nat) (q0 : Nat) (q1 : Nat) (mo : Int32) (f : Nat → Int32)  : he_I l yX10_told wsX10_told 1 22 0 0 g [.ref x0, .int 4] [(oX10 x0 y0 ta z0 p0 dr pa to_ s0 im ki tr v0 rf), (oX6 p0 p1 p2 p3 p4 w), (oX8 s0 h0 a0 b0 e0), (oX4 h0 q0 q1 mo), (aI g q0 24 f)] (fun (r : Int32) (u : Unit) => r = if f 10 = -1 then -1 else mo - f 11) (fun (u : Unit) => [(oX10 x0 y0 ta z0 p0 dr pa to_ s0 im ki tr v0 rf), (oX6 p0 p1 p2 p3 p4 w), (oX8 s0 h0 a0 b0 e0), (oX4 h0 q0 q1 mo), (aI g q0 24 f)]) := by
  refine he_begin (l := l) (g := g) (y := yX10_told) (wl := wsX10_told) (fr := 1) (lo := 22) (mc := 0) (ms := 0) (av := [.ref x0, .int 4]) (ws := [(oX10 x0 y0 ta z0 p0 dr pa to_ s0 im ki tr v0 rf), (oX6 p0 p1 p2 p3 p4 w), (oX8 s0 h0 a0 b0 e0), (oX4 h0 q0 q1 mo), (aI g q0 24 f)]) (cc := cX10_told) (maxL := 4) (ret := (some .int)) (fun A => va_Qi (fun (r : Int32) (u : Unit) => r = if f 10 = -1 then -1 else mo - f 11) (fun u t => he_post g A ((fun (u : Unit) => [(oX10 x0 y0 ta z0 p0 dr pa to_ s0 im ki tr v0 rf), (oX6 p0 p1 p2 p3 p4 w), (oX8 s0 h0 a0 b0 e0), (oX4 h0 q0 q1 mo), (aI g q0 24 f)]) u) t) A) (by decide) rfl (Nat.le_of_ble_eq_true rfl) ?_
  intro p e s m args below meth c A ls H locs Q hQ hB
  obtain ⟨hx, hb, hr, hml, hown, hts, hlk, hin, hP, hK, hD, hS, hA, hE, hl⟩ := hB
  have hl : lv_has ls 4 [(0, .ref x0), (1, .int 4)] := hl
  have f39 := hts (.fieldLink RX10 39 "HiredEnemy" "scene" "LHiredEnemy$Scene;") (iwoX10_told (k := 0) rfl)
  have inX10 : ∀ w ∈ wsX100, w ∈ wsX10_told := innX10_told_X10
  have f66 := hts (.fieldLink RX10 66 "HiredEnemy$Scene" "course" "LHiredEnemy$Course;") (iwoX10_told (k := 1) rfl)
  have inX8 : ∀ w ∈ wsX80, w ∈ wsX10_told := innX10_told_X8
  have f111 := hts (.fieldLink RX10 111 "HiredEnemy$Course" "now" "[I") (iwoX10_told (k := 2) rfl)
  have inX4 : ∀ w ∈ wsX40, w ∈ wsX10_told := innX10_told_X4
  have f114 := hts (.fieldLink RX10 114 "HiredEnemy$Course" "month" "I") (iwoX10_told (k := 6) rfl)
  refine lv_aload_n hx hb dX10_told_0 rfl (lv_at hl 0 rfl) ?_
  refine lv_iload_n hx hb dX10_told_1 rfl (lv_at hl 1 rfl) ?_
  refine lv_iconst (v := 0) hx hb dX10_told_2 (by decide) ?_
  refine lv_iconst (v := 4) hx hb dX10_told_3 (by decide) ?_
  refine he_ci (wc := []) (wr := [(oX10 x0 y0 ta z0 p0 dr pa to_ s0 im ki tr v0 rf), (oX6 p0 p1 p2 p3 p4 w), (oX8 s0 h0 a0 b0 e0), (oX4 h0 q0 q1 mo), (aI g q0 24 f)]) (va_runS (As := [.int 4, .int 0, .int 4]) (rest := [.ref x0]) ⟨hx, hb, hml, hown, hts⟩ (c_X10_within l g 4 0 4 H.size) (va_cwS 3 hts gX10_told_X10_within rfl rfl rfl (by decide +kernel) ⟨Nat.le_of_ble_eq_true rfl, Nat.le_of_ble_eq_true rfl⟩) (he_preS (wc := []) hK hP hD hS hA hE [] rfl rfl) rfl rfl hl.1 rfl (lv_room (Nat.le_of_ble_eq_true rfl)) dX10_told_4 ⟨(Nat.le_of_ble_eq_true rfl), (Nat.le_of_ble_eq_true rfl)⟩) hP hD hS hA [] [0, 1, 2, 3, 4] rfl rfl rfl (by decide) (fun r_1 u_2 H locs h_3 hP hD hS => ?_)
  subst h_3
  have hP : va_P g.1 vwCl [(oX10 x0 y0 ta z0 p0 dr pa to_ s0 im ki tr v0 rf), (oX6 p0 p1 p2 p3 p4 w), (oX8 s0 h0 a0 b0 e0), (oX4 h0 q0 q1 mo), (aI g q0 24 f)] H := hP
  have hD : va_D A [(oX10 x0 y0 ta z0 p0 dr pa to_ s0 im ki tr v0 rf), (oX6 p0 p1 p2 p3 p4 w), (oX8 s0 h0 a0 b0 e0), (oX4 h0 q0 q1 mo), (aI g q0 24 f)] := hD
  refine he_top (1) (by decide) ?_
  refine he_cv (wc := []) (wr := [(oX10 x0 y0 ta z0 p0 dr pa to_ s0 im ki tr v0 rf), (oX6 p0 p1 p2 p3 p4 w), (oX8 s0 h0 a0 b0 e0), (oX4 h0 q0 q1 mo), (aI g q0 24 f)]) (va_runV (As := [.int 1]) (rest := []) ⟨hx, hb, hml, hown, hts⟩ (c_X10_demand1 l g x0 H.size) (cwV 1 hts gX10_told_X10_demand rfl rfl rfl (by decide +kernel) ⟨Nat.le_of_ble_eq_true rfl, Nat.le_of_ble_eq_true rfl⟩) (he_preV (wc := []) hK hP hD hS hA hE [] rfl rfl 0 rfl rfl) rfl rfl hl.1 rfl (lv_room (Nat.le_of_ble_eq_true rfl)) dX10_told_7 ⟨(Nat.le_of_ble_eq_true rfl), (Nat.le_of_ble_eq_true rfl)⟩) hP hD hS hA [] [0, 1, 2, 3, 4] rfl rfl rfl (by decide) (fun u_5 H locs h_6 hP hD hS => ?_)
  have hP : va_P g.1 vwCl [(oX10 x0 y0 ta z0 p0 dr pa to_ s0 im ki tr v0 rf), (oX6 p0 p1 p2 p3 p4 w), (oX8 s0 h0 a0 b0 e0), (oX4 h0 q0 q1 mo), (aI g q0 24 f)] H := hP
  have hD : va_D A [(oX10 x0 y0 ta z0 p0 dr pa to_ s0 im ki tr v0 rf), (oX6 p0 p1 p2 p3 p4 w), (oX8 s0 h0 a0 b0 e0), (oX4 h0 q0 q1 mo), (aI g q0 24 f)] := hD
  refine lv_aload_n hx hb dX10_told_10 rfl (lv_at hl 0 rfl) ?_
  refine va_get (v := .ref s0) (T := TX10) (N := 13) hx hb hts inX10 hown hK hP 0 rfl rfl 7 (by decide) f39 (fun _ h9 => h9) rfl dX10_told_11 ?_
  refine va_get (v := .ref h0) (T := TX8) (N := 4) hx hb hts inX8 hown hK hP 2 rfl rfl 0 (by decide) f66 (fun _ h9 => h9) rfl dX10_told_14 ?_
  refine lv_astore_n (lv' := [(2, .ref h0), (0, .ref x0), (1, .int 4)]) hx hb dX10_told_17 rfl hl (by decide) rfl (fun ls hl => ?_)
  refine lv_aload_n hx hb dX10_told_18 rfl (lv_at hl 0 rfl) ?_
  refine va_get (v := .ref q0) (T := TX4) (N := 3) hx hb hts inX4 hown hK hP 3 rfl rfl 0 (by decide) f111 (fun _ h9 => h9) rfl dX10_told_19 ?_
  refine lv_bipush (v := 10) hx hb dX10_told_22 (by decide) ?_
  refine he_iald hx hb hK hP 4 rfl (10) (by decide) (by decide) (by first | decide | assumption) (f 10) rfl dX10_told_24 ?_
  refine lv_istore_n (lv' := [(3, .int (f 10)), (2, .ref h0), (0, .ref x0), (1, .int 4)]) hx hb dX10_told_25 rfl hl (by decide) rfl (fun ls hl => ?_)
  refine lv_iload_n hx hb dX10_told_26 rfl (lv_at hl 3 rfl) ?_
  refine lv_tableOut (tgt := 76) hx hb dX10_told_27 (by decide) (by decide) ?_
  refine lv_iload_n hx hb dX10_told_76 rfl (lv_at hl 0 rfl) ?_
  refine lv_iconst (v := (-1)) hx hb dX10_told_77 (by decide) ?_
  refine lv_icmp_ne (tgt := 85) hx hb dX10_told_78 (by decide) (fun c_7 => ?_) (fun c_7 => ?_)
  · refine lv_aload_n hx hb dX10_told_85 rfl (lv_at hl 1 rfl) ?_
    refine va_get (v := .int mo) (T := TX4) (N := 3) hx hb hts inX4 hown hK hP 3 rfl rfl 2 (by decide) f114 (fun _ h9 => h9) rfl dX10_told_86 ?_
    refine lv_aload_n hx hb dX10_told_89 rfl (lv_at hl 1 rfl) ?_
    refine va_get (v := .ref q0) (T := TX4) (N := 3) hx hb hts inX4 hown hK hP 3 rfl rfl 0 (by decide) f111 (fun _ h9 => h9) rfl dX10_told_90 ?_
    refine lv_bipush (v := 11) hx hb dX10_told_93 (by decide) ?_
    refine he_iald hx hb hK hP 4 rfl (11) (by decide) (by decide) (by first | decide | assumption) (f 11) rfl dX10_told_95 ?_
    refine lv_isub hx hb dX10_told_96 ?_
    exact he_ri hQ hx hb hr hlk hP hD hS dX10_told_97 (Nat.le_of_ble_eq_true rfl) (Nat.le_of_ble_eq_true rfl) (()) (rfl) ((by rw [if_neg c_7]))
  · refine lv_iconst (v := (-1)) hx hb dX10_told_81 (by decide) ?_
    refine lv_goto (tgt := 97) hx hb dX10_told_82 (by decide) ?_
    exact he_ri hQ hx hb hr hlk hP hD hS dX10_told_97 (Nat.le_of_ble_eq_true rfl) (Nat.le_of_ble_eq_true rfl) (()) (rfl) ((by rw [if_pos c_7]))
set_option maxHeartbeats 4000000 in
set_option maxRecDepth 100000 in
theorem s_X10_wall0 (l : Launch) (g : he_G) (x0 : Nat) (y0 : Nat) (z0 : Nat) (dr : Nat) (pa : Nat) (s0 : Nat) (im : Nat) (tr : Nat) (v0 : Nat) (rf : Nat) (ta : Int32) (to_ : Int32) (ki : Int32) (p0 : Nat) (p1 : Nat) (p2 : Nat) (p3 : Nat) (p4 : Nat) (w : Nat) (st : Nat → Int32) (me : Nat → Int32) (a0 : Nat) (b0 : Nat) (e0 : Nat) (h0 : Nat) (q0 : Nat) (q1 : Nat) (mo : Int32) (f : Nat → Int32) (j : Nat) (hw6 : w ≤ 6) (hj : j < w) : he_I l yX10_wall wsX10_wall 2 43 0 0 g [.ref x0, .int (nI j), .int 0] [(oX10 x0 y0 ta z0 p0 dr pa to_ s0 im ki tr v0 rf), (oX6 p0 p1 p2 p3 p4 (nI w)), (aI g p3 6 st), (aI g p4 6 me), (oX8 s0 h0 a0 b0 e0), (oX4 h0 q0 q1 mo), (aI g q0 24 f)] (fun (r : Int32) (u : Unit) => r = st j) (fun (u : Unit) => [(oX10 x0 y0 ta z0 p0 dr pa to_ s0 im ki tr v0 rf), (oX6 p0 p1 p2 p3 p4 (nI w)), (aI g p3 6 st), (aI g p4 6 me), (oX8 s0 h0 a0 b0 e0), (oX4 h0 q0 q1 mo), (aI g q0 24 f)]) := by
  refine he_begin (l := l) (g := g) (y := yX10_wall) (wl := wsX10_wall) (fr := 2) (lo := 43) (mc := 0) (ms := 0) (av := [.ref x0, .int (nI j), .int 0]) (ws := [(oX10 x0 y0 ta z0 p0 dr pa to_ s0 im ki tr v0 rf), (oX6 p0 p1 p2 p3 p4 (nI w)), (aI g p3 6 st), (aI g p4 6 me), (oX8 s0 h0 a0 b0 e0), (oX4 h0 q0 q1 mo), (aI g q0 24 f)]) (cc := cX10_wall) (maxL := 3) (ret := (some .int)) (fun A => va_Qi (fun (r : Int32) (u : Unit) => r = st j) (fun u t => he_post g A ((fun (u : Unit) => [(oX10 x0 y0 ta z0 p0 dr pa to_ s0 im ki tr v0 rf), (oX6 p0 p1 p2 p3 p4 (nI w)), (aI g p3 6 st), (aI g p4 6 me), (oX8 s0 h0 a0 b0 e0), (oX4 h0 q0 q1 mo), (aI g q0 24 f)]) u) t) A) (by decide) rfl (Nat.le_of_ble_eq_true rfl) ?_
  intro p e s m args below meth c A ls H locs Q hQ hB
  obtain ⟨hx, hb, hr, hml, hown, hts, hlk, hin, hP, hK, hD, hS, hA, hE, hl⟩ := hB
  have hl : lv_has ls 3 [(0, .ref x0), (1, .int (nI j)), (2, .int 0)] := hl
  have f23 := hts (.fieldLink RX10 23 "HiredEnemy" "plan" "LHiredEnemy$Plan;") (iwoX10_wall (k := 0) rfl)
  have inX10 : ∀ w ∈ wsX100, w ∈ wsX10_wall := innX10_wall_X10
  have f120 := hts (.fieldLink RX10 120 "HiredEnemy$Plan" "strength" "[I") (iwoX10_wall (k := 1) rfl)
  have inX6 : ∀ w ∈ wsX60, w ∈ wsX10_wall := innX10_wall_X6
  refine lv_aload_n hx hb dX10_wall_0 rfl (lv_at hl 0 rfl) ?_
  refine lv_iload_n hx hb dX10_wall_1 rfl (lv_at hl 1 rfl) ?_
  refine he_cv (wc := [(oX10 x0 y0 ta z0 p0 dr pa to_ s0 im ki tr v0 rf), (oX6 p0 p1 p2 p3 p4 (nI w))]) (wr := [(aI g p3 6 st), (aI g p4 6 me), (oX8 s0 h0 a0 b0 e0), (oX4 h0 q0 q1 mo), (aI g q0 24 f)]) (va_runV (As := [.int (nI j)]) (rest := []) ⟨hx, hb, hml, hown, hts⟩ (g_X10_demandWall1 l g x0 y0 z0 dr pa s0 im tr v0 rf ta to_ ki p0 p1 p2 p3 p4 w (nI j) (wall_in hj (by omega)) H.size) (cwV 1 hts gX10_wall_X10_demandWall rfl rfl rfl (by decide +kernel) ⟨Nat.le_of_ble_eq_true rfl, Nat.le_of_ble_eq_true rfl⟩) (he_preV (wc := [(oX10 x0 y0 ta z0 p0 dr pa to_ s0 im ki tr v0 rf), (oX6 p0 p1 p2 p3 p4 (nI w))]) hK hP hD hS hA hE [0, 1] rfl rfl 0 rfl rfl) rfl rfl hl.1 rfl (lv_room (Nat.le_of_ble_eq_true rfl)) dX10_wall_2 ⟨(Nat.le_of_ble_eq_true rfl), (Nat.le_of_ble_eq_true rfl)⟩) hP hD hS hA [0, 1] [2, 3, 4, 5, 6] rfl rfl rfl (by decide) (fun u_2 H locs h_3 hP hD hS => ?_)
  have hP : va_P g.1 vwCl [(aI g p3 6 st), (aI g p4 6 me), (oX8 s0 h0 a0 b0 e0), (oX4 h0 q0 q1 mo), (aI g q0 24 f), (oX10 x0 y0 ta z0 p0 dr pa to_ s0 im ki tr v0 rf), (oX6 p0 p1 p2 p3 p4 (nI w))] H := hP
  have hD : va_D A [(aI g p3 6 st), (aI g p4 6 me), (oX8 s0 h0 a0 b0 e0), (oX4 h0 q0 q1 mo), (aI g q0 24 f), (oX10 x0 y0 ta z0 p0 dr pa to_ s0 im ki tr v0 rf), (oX6 p0 p1 p2 p3 p4 (nI w))] := hD
  refine lv_aload_n hx hb dX10_wall_5 rfl (lv_at hl 0 rfl) ?_
  refine lv_iload_n hx hb dX10_wall_6 rfl (lv_at hl 2 rfl) ?_
  refine lv_iconst (v := 0) hx hb dX10_wall_7 (by decide) ?_
  refine lv_iconst (v := 3) hx hb dX10_wall_8 (by decide) ?_
  refine he_ci (wc := []) (wr := [(aI g p3 6 st), (aI g p4 6 me), (oX8 s0 h0 a0 b0 e0), (oX4 h0 q0 q1 mo), (aI g q0 24 f), (oX10 x0 y0 ta z0 p0 dr pa to_ s0 im ki tr v0 rf), (oX6 p0 p1 p2 p3 p4 (nI w))]) (va_runS (As := [.int 0, .int 0, .int 3]) (rest := [.ref x0]) ⟨hx, hb, hml, hown, hts⟩ (c_X10_within l g 0 0 3 H.size) (va_cwS 3 hts gX10_wall_X10_within rfl rfl rfl (by decide +kernel) ⟨Nat.le_of_ble_eq_true rfl, Nat.le_of_ble_eq_true rfl⟩) (he_preS (wc := []) hK hP hD hS hA hE [] rfl rfl) rfl rfl hl.1 rfl (lv_room (Nat.le_of_ble_eq_true rfl)) dX10_wall_9 ⟨(Nat.le_of_ble_eq_true rfl), (Nat.le_of_ble_eq_true rfl)⟩) hP hD hS hA [] [0, 1, 2, 3, 4, 5, 6] rfl rfl rfl (by decide) (fun r_4 u_5 H locs h_6 hP hD hS => ?_)
  subst h_6
  have hP : va_P g.1 vwCl [(aI g p3 6 st), (aI g p4 6 me), (oX8 s0 h0 a0 b0 e0), (oX4 h0 q0 q1 mo), (aI g q0 24 f), (oX10 x0 y0 ta z0 p0 dr pa to_ s0 im ki tr v0 rf), (oX6 p0 p1 p2 p3 p4 (nI w))] H := hP
  have hD : va_D A [(aI g p3 6 st), (aI g p4 6 me), (oX8 s0 h0 a0 b0 e0), (oX4 h0 q0 q1 mo), (aI g q0 24 f), (oX10 x0 y0 ta z0 p0 dr pa to_ s0 im ki tr v0 rf), (oX6 p0 p1 p2 p3 p4 (nI w))] := hD
  refine he_top (1) (by decide) ?_
  refine he_cv (wc := []) (wr := [(aI g p3 6 st), (aI g p4 6 me), (oX8 s0 h0 a0 b0 e0), (oX4 h0 q0 q1 mo), (aI g q0 24 f), (oX10 x0 y0 ta z0 p0 dr pa to_ s0 im ki tr v0 rf), (oX6 p0 p1 p2 p3 p4 (nI w))]) (va_runV (As := [.int 1]) (rest := []) ⟨hx, hb, hml, hown, hts⟩ (c_X10_demand1 l g x0 H.size) (cwV 1 hts gX10_wall_X10_demand rfl rfl rfl (by decide +kernel) ⟨Nat.le_of_ble_eq_true rfl, Nat.le_of_ble_eq_true rfl⟩) (he_preV (wc := []) hK hP hD hS hA hE [] rfl rfl 5 rfl rfl) rfl rfl hl.1 rfl (lv_room (Nat.le_of_ble_eq_true rfl)) dX10_wall_12 ⟨(Nat.le_of_ble_eq_true rfl), (Nat.le_of_ble_eq_true rfl)⟩) hP hD hS hA [] [0, 1, 2, 3, 4, 5, 6] rfl rfl rfl (by decide) (fun u_8 H locs h_9 hP hD hS => ?_)
  have hP : va_P g.1 vwCl [(aI g p3 6 st), (aI g p4 6 me), (oX8 s0 h0 a0 b0 e0), (oX4 h0 q0 q1 mo), (aI g q0 24 f), (oX10 x0 y0 ta z0 p0 dr pa to_ s0 im ki tr v0 rf), (oX6 p0 p1 p2 p3 p4 (nI w))] H := hP
  have hD : va_D A [(aI g p3 6 st), (aI g p4 6 me), (oX8 s0 h0 a0 b0 e0), (oX4 h0 q0 q1 mo), (aI g q0 24 f), (oX10 x0 y0 ta z0 p0 dr pa to_ s0 im ki tr v0 rf), (oX6 p0 p1 p2 p3 p4 (nI w))] := hD
  refine lv_iload_n hx hb dX10_wall_15 rfl (lv_at hl 2 rfl) ?_
  refine lv_tableIn (tgt := 44) hx hb dX10_wall_16 (by decide) (by decide) rfl (by decide) ?_
  refine lv_aload_n hx hb dX10_wall_44 rfl (lv_at hl 0 rfl) ?_
  refine va_get (v := .ref p0) (T := TX10) (N := 13) hx hb hts inX10 hown hK hP 5 rfl rfl 3 (by decide) f23 (fun _ h9 => h9) rfl dX10_wall_45 ?_
  refine va_get (v := .ref p3) (T := TX6) (N := 5) hx hb hts inX6 hown hK hP 6 rfl rfl 2 (by decide) f120 (fun _ h9 => h9) rfl dX10_wall_48 ?_
  refine lv_iload_n hx hb dX10_wall_51 rfl (lv_at hl 1 rfl) ?_
  refine he_iald hx hb hK hP 0 rfl (j) rfl (by first | assumption | decide | omega) (by first | decide | assumption) (st j) rfl dX10_wall_52 ?_
  have hP := hP.sub (ws' := [(oX10 x0 y0 ta z0 p0 dr pa to_ s0 im ki tr v0 rf), (oX6 p0 p1 p2 p3 p4 (nI w)), (aI g p3 6 st), (aI g p4 6 me), (oX8 s0 h0 a0 b0 e0), (oX4 h0 q0 q1 mo), (aI g q0 24 f)]) [5, 6, 0, 1, 2, 3, 4] rfl
  have hD := hD.sub (ws' := [(oX10 x0 y0 ta z0 p0 dr pa to_ s0 im ki tr v0 rf), (oX6 p0 p1 p2 p3 p4 (nI w)), (aI g p3 6 st), (aI g p4 6 me), (oX8 s0 h0 a0 b0 e0), (oX4 h0 q0 q1 mo), (aI g q0 24 f)]) [5, 6, 0, 1, 2, 3, 4] (by decide) rfl
  exact he_ri hQ hx hb hr hlk hP hD hS dX10_wall_53 (Nat.le_of_ble_eq_true rfl) (Nat.le_of_ble_eq_true rfl) (()) (rfl) (rfl)
set_option maxHeartbeats 4000000 in
set_option maxRecDepth 100000 in
theorem s_X10_wall1 (l : Launch) (g : he_G) (x0 : Nat) (y0 : Nat) (z0 : Nat) (dr : Nat) (pa : Nat) (s0 : Nat) (im : Nat) (tr : Nat) (v0 : Nat) (rf : Nat) (ta : Int32) (to_ : Int32) (ki : Int32) (p0 : Nat) (p1 : Nat) (p2 : Nat) (p3 : Nat) (p4 : Nat) (w : Nat) (st : Nat → Int32) (me : Nat → Int32) (a0 : Nat) (b0 : Nat) (e0 : Nat) (h0 : Nat) (q0 : Nat) (q1 : Nat) (mo : Int32) (f : Nat → Int32) (j : Nat) (hw6 : w ≤ 6) (hj : j < w) : he_I l yX10_wall wsX10_wall 2 43 0 0 g [.ref x0, .int (nI j), .int 1] [(oX10 x0 y0 ta z0 p0 dr pa to_ s0 im ki tr v0 rf), (oX6 p0 p1 p2 p3 p4 (nI w)), (aI g p3 6 st), (aI g p4 6 me), (oX8 s0 h0 a0 b0 e0), (oX4 h0 q0 q1 mo), (aI g q0 24 f)] (fun (r : Int32) (u : Unit) => r = f (12 + j)) (fun (u : Unit) => [(oX10 x0 y0 ta z0 p0 dr pa to_ s0 im ki tr v0 rf), (oX6 p0 p1 p2 p3 p4 (nI w)), (aI g p3 6 st), (aI g p4 6 me), (oX8 s0 h0 a0 b0 e0), (oX4 h0 q0 q1 mo), (aI g q0 24 f)]) := by
  refine he_begin (l := l) (g := g) (y := yX10_wall) (wl := wsX10_wall) (fr := 2) (lo := 43) (mc := 0) (ms := 0) (av := [.ref x0, .int (nI j), .int 1]) (ws := [(oX10 x0 y0 ta z0 p0 dr pa to_ s0 im ki tr v0 rf), (oX6 p0 p1 p2 p3 p4 (nI w)), (aI g p3 6 st), (aI g p4 6 me), (oX8 s0 h0 a0 b0 e0), (oX4 h0 q0 q1 mo), (aI g q0 24 f)]) (cc := cX10_wall) (maxL := 3) (ret := (some .int)) (fun A => va_Qi (fun (r : Int32) (u : Unit) => r = f (12 + j)) (fun u t => he_post g A ((fun (u : Unit) => [(oX10 x0 y0 ta z0 p0 dr pa to_ s0 im ki tr v0 rf), (oX6 p0 p1 p2 p3 p4 (nI w)), (aI g p3 6 st), (aI g p4 6 me), (oX8 s0 h0 a0 b0 e0), (oX4 h0 q0 q1 mo), (aI g q0 24 f)]) u) t) A) (by decide) rfl (Nat.le_of_ble_eq_true rfl) ?_
  intro p e s m args below meth c A ls H locs Q hQ hB
  obtain ⟨hx, hb, hr, hml, hown, hts, hlk, hin, hP, hK, hD, hS, hA, hE, hl⟩ := hB
  have hl : lv_has ls 3 [(0, .ref x0), (1, .int (nI j)), (2, .int 1)] := hl
  have f39 := hts (.fieldLink RX10 39 "HiredEnemy" "scene" "LHiredEnemy$Scene;") (iwoX10_wall (k := 2) rfl)
  have inX10 : ∀ w ∈ wsX100, w ∈ wsX10_wall := innX10_wall_X10
  have f66 := hts (.fieldLink RX10 66 "HiredEnemy$Scene" "course" "LHiredEnemy$Course;") (iwoX10_wall (k := 3) rfl)
  have inX8 : ∀ w ∈ wsX80, w ∈ wsX10_wall := innX10_wall_X8
  have f111 := hts (.fieldLink RX10 111 "HiredEnemy$Course" "now" "[I") (iwoX10_wall (k := 4) rfl)
  have inX4 : ∀ w ∈ wsX40, w ∈ wsX10_wall := innX10_wall_X4
  refine lv_aload_n hx hb dX10_wall_0 rfl (lv_at hl 0 rfl) ?_
  refine lv_iload_n hx hb dX10_wall_1 rfl (lv_at hl 1 rfl) ?_
  refine he_cv (wc := [(oX10 x0 y0 ta z0 p0 dr pa to_ s0 im ki tr v0 rf), (oX6 p0 p1 p2 p3 p4 (nI w))]) (wr := [(aI g p3 6 st), (aI g p4 6 me), (oX8 s0 h0 a0 b0 e0), (oX4 h0 q0 q1 mo), (aI g q0 24 f)]) (va_runV (As := [.int (nI j)]) (rest := []) ⟨hx, hb, hml, hown, hts⟩ (g_X10_demandWall1 l g x0 y0 z0 dr pa s0 im tr v0 rf ta to_ ki p0 p1 p2 p3 p4 w (nI j) (wall_in hj (by omega)) H.size) (cwV 1 hts gX10_wall_X10_demandWall rfl rfl rfl (by decide +kernel) ⟨Nat.le_of_ble_eq_true rfl, Nat.le_of_ble_eq_true rfl⟩) (he_preV (wc := [(oX10 x0 y0 ta z0 p0 dr pa to_ s0 im ki tr v0 rf), (oX6 p0 p1 p2 p3 p4 (nI w))]) hK hP hD hS hA hE [0, 1] rfl rfl 0 rfl rfl) rfl rfl hl.1 rfl (lv_room (Nat.le_of_ble_eq_true rfl)) dX10_wall_2 ⟨(Nat.le_of_ble_eq_true rfl), (Nat.le_of_ble_eq_true rfl)⟩) hP hD hS hA [0, 1] [2, 3, 4, 5, 6] rfl rfl rfl (by decide) (fun u_2 H locs h_3 hP hD hS => ?_)
  have hP : va_P g.1 vwCl [(aI g p3 6 st), (aI g p4 6 me), (oX8 s0 h0 a0 b0 e0), (oX4 h0 q0 q1 mo), (aI g q0 24 f), (oX10 x0 y0 ta z0 p0 dr pa to_ s0 im ki tr v0 rf), (oX6 p0 p1 p2 p3 p4 (nI w))] H := hP
  have hD : va_D A [(aI g p3 6 st), (aI g p4 6 me), (oX8 s0 h0 a0 b0 e0), (oX4 h0 q0 q1 mo), (aI g q0 24 f), (oX10 x0 y0 ta z0 p0 dr pa to_ s0 im ki tr v0 rf), (oX6 p0 p1 p2 p3 p4 (nI w))] := hD
  refine lv_aload_n hx hb dX10_wall_5 rfl (lv_at hl 0 rfl) ?_
  refine lv_iload_n hx hb dX10_wall_6 rfl (lv_at hl 2 rfl) ?_
  refine lv_iconst (v := 0) hx hb dX10_wall_7 (by decide) ?_
  refine lv_iconst (v := 3) hx hb dX10_wall_8 (by decide) ?_
  refine he_ci (wc := []) (wr := [(aI g p3 6 st), (aI g p4 6 me), (oX8 s0 h0 a0 b0 e0), (oX4 h0 q0 q1 mo), (aI g q0 24 f), (oX10 x0 y0 ta z0 p0 dr pa to_ s0 im ki tr v0 rf), (oX6 p0 p1 p2 p3 p4 (nI w))]) (va_runS (As := [.int 1, .int 0, .int 3]) (rest := [.ref x0]) ⟨hx, hb, hml, hown, hts⟩ (c_X10_within l g 1 0 3 H.size) (va_cwS 3 hts gX10_wall_X10_within rfl rfl rfl (by decide +kernel) ⟨Nat.le_of_ble_eq_true rfl, Nat.le_of_ble_eq_true rfl⟩) (he_preS (wc := []) hK hP hD hS hA hE [] rfl rfl) rfl rfl hl.1 rfl (lv_room (Nat.le_of_ble_eq_true rfl)) dX10_wall_9 ⟨(Nat.le_of_ble_eq_true rfl), (Nat.le_of_ble_eq_true rfl)⟩) hP hD hS hA [] [0, 1, 2, 3, 4, 5, 6] rfl rfl rfl (by decide) (fun r_4 u_5 H locs h_6 hP hD hS => ?_)
  subst h_6
  have hP : va_P g.1 vwCl [(aI g p3 6 st), (aI g p4 6 me), (oX8 s0 h0 a0 b0 e0), (oX4 h0 q0 q1 mo), (aI g q0 24 f), (oX10 x0 y0 ta z0 p0 dr pa to_ s0 im ki tr v0 rf), (oX6 p0 p1 p2 p3 p4 (nI w))] H := hP
  have hD : va_D A [(aI g p3 6 st), (aI g p4 6 me), (oX8 s0 h0 a0 b0 e0), (oX4 h0 q0 q1 mo), (aI g q0 24 f), (oX10 x0 y0 ta z0 p0 dr pa to_ s0 im ki tr v0 rf), (oX6 p0 p1 p2 p3 p4 (nI w))] := hD
  refine he_top (1) (by decide) ?_
  refine he_cv (wc := []) (wr := [(aI g p3 6 st), (aI g p4 6 me), (oX8 s0 h0 a0 b0 e0), (oX4 h0 q0 q1 mo), (aI g q0 24 f), (oX10 x0 y0 ta z0 p0 dr pa to_ s0 im ki tr v0 rf), (oX6 p0 p1 p2 p3 p4 (nI w))]) (va_runV (As := [.int 1]) (rest := []) ⟨hx, hb, hml, hown, hts⟩ (c_X10_demand1 l g x0 H.size) (cwV 1 hts gX10_wall_X10_demand rfl rfl rfl (by decide +kernel) ⟨Nat.le_of_ble_eq_true rfl, Nat.le_of_ble_eq_true rfl⟩) (he_preV (wc := []) hK hP hD hS hA hE [] rfl rfl 5 rfl rfl) rfl rfl hl.1 rfl (lv_room (Nat.le_of_ble_eq_true rfl)) dX10_wall_12 ⟨(Nat.le_of_ble_eq_true rfl), (Nat.le_of_ble_eq_true rfl)⟩) hP hD hS hA [] [0, 1, 2, 3, 4, 5, 6] rfl rfl rfl (by decide) (fun u_8 H locs h_9 hP hD hS => ?_)
  have hP : va_P g.1 vwCl [(aI g p3 6 st), (aI g p4 6 me), (oX8 s0 h0 a0 b0 e0), (oX4 h0 q0 q1 mo), (aI g q0 24 f), (oX10 x0 y0 ta z0 p0 dr pa to_ s0 im ki tr v0 rf), (oX6 p0 p1 p2 p3 p4 (nI w))] H := hP
  have hD : va_D A [(aI g p3 6 st), (aI g p4 6 me), (oX8 s0 h0 a0 b0 e0), (oX4 h0 q0 q1 mo), (aI g q0 24 f), (oX10 x0 y0 ta z0 p0 dr pa to_ s0 im ki tr v0 rf), (oX6 p0 p1 p2 p3 p4 (nI w))] := hD
  refine lv_iload_n hx hb dX10_wall_15 rfl (lv_at hl 2 rfl) ?_
  refine lv_tableIn (tgt := 54) hx hb dX10_wall_16 (by decide) (by decide) rfl (by decide) ?_
  refine lv_aload_n hx hb dX10_wall_54 rfl (lv_at hl 0 rfl) ?_
  refine va_get (v := .ref s0) (T := TX10) (N := 13) hx hb hts inX10 hown hK hP 5 rfl rfl 7 (by decide) f39 (fun _ h9 => h9) rfl dX10_wall_55 ?_
  refine va_get (v := .ref h0) (T := TX8) (N := 4) hx hb hts inX8 hown hK hP 2 rfl rfl 0 (by decide) f66 (fun _ h9 => h9) rfl dX10_wall_58 ?_
  refine va_get (v := .ref q0) (T := TX4) (N := 3) hx hb hts inX4 hown hK hP 3 rfl rfl 0 (by decide) f111 (fun _ h9 => h9) rfl dX10_wall_61 ?_
  refine lv_bipush (v := 12) hx hb dX10_wall_64 (by decide) ?_
  refine lv_iload_n hx hb dX10_wall_66 rfl (lv_at hl 1 rfl) ?_
  refine lv_iadd hx hb dX10_wall_67 ?_
  refine he_top (nI (12 + j)) (nI_add 12 j) ?_
  refine he_iald hx hb hK hP 4 rfl (12 + j) rfl (by first | assumption | decide | omega) (by first | decide | assumption) (f (12 + j)) rfl dX10_wall_68 ?_
  have hP := hP.sub (ws' := [(oX10 x0 y0 ta z0 p0 dr pa to_ s0 im ki tr v0 rf), (oX6 p0 p1 p2 p3 p4 (nI w)), (aI g p3 6 st), (aI g p4 6 me), (oX8 s0 h0 a0 b0 e0), (oX4 h0 q0 q1 mo), (aI g q0 24 f)]) [5, 6, 0, 1, 2, 3, 4] rfl
  have hD := hD.sub (ws' := [(oX10 x0 y0 ta z0 p0 dr pa to_ s0 im ki tr v0 rf), (oX6 p0 p1 p2 p3 p4 (nI w)), (aI g p3 6 st), (aI g p4 6 me), (oX8 s0 h0 a0 b0 e0), (oX4 h0 q0 q1 mo), (aI g q0 24 f)]) [5, 6, 0, 1, 2, 3, 4] (by decide) rfl
  exact he_ri hQ hx hb hr hlk hP hD hS dX10_wall_69 (Nat.le_of_ble_eq_true rfl) (Nat.le_of_ble_eq_true rfl) (()) (rfl) (rfl)
set_option maxHeartbeats 4000000 in
set_option maxRecDepth 100000 in
theorem s_X10_wall2 (l : Launch) (g : he_G) (x0 : Nat) (y0 : Nat) (z0 : Nat) (dr : Nat) (pa : Nat) (s0 : Nat) (im : Nat) (tr : Nat) (v0 : Nat) (rf : Nat) (ta : Int32) (to_ : Int32) (ki : Int32) (p0 : Nat) (p1 : Nat) (p2 : Nat) (p3 : Nat) (p4 : Nat) (w : Nat) (st : Nat → Int32) (me : Nat → Int32) (a0 : Nat) (b0 : Nat) (e0 : Nat) (h0 : Nat) (q0 : Nat) (q1 : Nat) (mo : Int32) (f : Nat → Int32) (j : Nat) (hw6 : w ≤ 6) (hj : j < w) : he_I l yX10_wall wsX10_wall 2 43 0 0 g [.ref x0, .int (nI j), .int 2] [(oX10 x0 y0 ta z0 p0 dr pa to_ s0 im ki tr v0 rf), (oX6 p0 p1 p2 p3 p4 (nI w)), (aI g p3 6 st), (aI g p4 6 me), (oX8 s0 h0 a0 b0 e0), (oX4 h0 q0 q1 mo), (aI g q0 24 f)] (fun (r : Int32) (u : Unit) => r = me j) (fun (u : Unit) => [(oX10 x0 y0 ta z0 p0 dr pa to_ s0 im ki tr v0 rf), (oX6 p0 p1 p2 p3 p4 (nI w)), (aI g p3 6 st), (aI g p4 6 me), (oX8 s0 h0 a0 b0 e0), (oX4 h0 q0 q1 mo), (aI g q0 24 f)]) := by
  refine he_begin (l := l) (g := g) (y := yX10_wall) (wl := wsX10_wall) (fr := 2) (lo := 43) (mc := 0) (ms := 0) (av := [.ref x0, .int (nI j), .int 2]) (ws := [(oX10 x0 y0 ta z0 p0 dr pa to_ s0 im ki tr v0 rf), (oX6 p0 p1 p2 p3 p4 (nI w)), (aI g p3 6 st), (aI g p4 6 me), (oX8 s0 h0 a0 b0 e0), (oX4 h0 q0 q1 mo), (aI g q0 24 f)]) (cc := cX10_wall) (maxL := 3) (ret := (some .int)) (fun A => va_Qi (fun (r : Int32) (u : Unit) => r = me j) (fun u t => he_post g A ((fun (u : Unit) => [(oX10 x0 y0 ta z0 p0 dr pa to_ s0 im ki tr v0 rf), (oX6 p0 p1 p2 p3 p4 (nI w)), (aI g p3 6 st), (aI g p4 6 me), (oX8 s0 h0 a0 b0 e0), (oX4 h0 q0 q1 mo), (aI g q0 24 f)]) u) t) A) (by decide) rfl (Nat.le_of_ble_eq_true rfl) ?_
  intro p e s m args below meth c A ls H locs Q hQ hB
  obtain ⟨hx, hb, hr, hml, hown, hts, hlk, hin, hP, hK, hD, hS, hA, hE, hl⟩ := hB
  have hl : lv_has ls 3 [(0, .ref x0), (1, .int (nI j)), (2, .int 2)] := hl
  have f23 := hts (.fieldLink RX10 23 "HiredEnemy" "plan" "LHiredEnemy$Plan;") (iwoX10_wall (k := 0) rfl)
  have inX10 : ∀ w ∈ wsX100, w ∈ wsX10_wall := innX10_wall_X10
  have f123 := hts (.fieldLink RX10 123 "HiredEnemy$Plan" "mended" "[I") (iwoX10_wall (k := 5) rfl)
  have inX6 : ∀ w ∈ wsX60, w ∈ wsX10_wall := innX10_wall_X6
  refine lv_aload_n hx hb dX10_wall_0 rfl (lv_at hl 0 rfl) ?_
  refine lv_iload_n hx hb dX10_wall_1 rfl (lv_at hl 1 rfl) ?_
  refine he_cv (wc := [(oX10 x0 y0 ta z0 p0 dr pa to_ s0 im ki tr v0 rf), (oX6 p0 p1 p2 p3 p4 (nI w))]) (wr := [(aI g p3 6 st), (aI g p4 6 me), (oX8 s0 h0 a0 b0 e0), (oX4 h0 q0 q1 mo), (aI g q0 24 f)]) (va_runV (As := [.int (nI j)]) (rest := []) ⟨hx, hb, hml, hown, hts⟩ (g_X10_demandWall1 l g x0 y0 z0 dr pa s0 im tr v0 rf ta to_ ki p0 p1 p2 p3 p4 w (nI j) (wall_in hj (by omega)) H.size) (cwV 1 hts gX10_wall_X10_demandWall rfl rfl rfl (by decide +kernel) ⟨Nat.le_of_ble_eq_true rfl, Nat.le_of_ble_eq_true rfl⟩) (he_preV (wc := [(oX10 x0 y0 ta z0 p0 dr pa to_ s0 im ki tr v0 rf), (oX6 p0 p1 p2 p3 p4 (nI w))]) hK hP hD hS hA hE [0, 1] rfl rfl 0 rfl rfl) rfl rfl hl.1 rfl (lv_room (Nat.le_of_ble_eq_true rfl)) dX10_wall_2 ⟨(Nat.le_of_ble_eq_true rfl), (Nat.le_of_ble_eq_true rfl)⟩) hP hD hS hA [0, 1] [2, 3, 4, 5, 6] rfl rfl rfl (by decide) (fun u_2 H locs h_3 hP hD hS => ?_)
  have hP : va_P g.1 vwCl [(aI g p3 6 st), (aI g p4 6 me), (oX8 s0 h0 a0 b0 e0), (oX4 h0 q0 q1 mo), (aI g q0 24 f), (oX10 x0 y0 ta z0 p0 dr pa to_ s0 im ki tr v0 rf), (oX6 p0 p1 p2 p3 p4 (nI w))] H := hP
  have hD : va_D A [(aI g p3 6 st), (aI g p4 6 me), (oX8 s0 h0 a0 b0 e0), (oX4 h0 q0 q1 mo), (aI g q0 24 f), (oX10 x0 y0 ta z0 p0 dr pa to_ s0 im ki tr v0 rf), (oX6 p0 p1 p2 p3 p4 (nI w))] := hD
  refine lv_aload_n hx hb dX10_wall_5 rfl (lv_at hl 0 rfl) ?_
  refine lv_iload_n hx hb dX10_wall_6 rfl (lv_at hl 2 rfl) ?_
  refine lv_iconst (v := 0) hx hb dX10_wall_7 (by decide) ?_
  refine lv_iconst (v := 3) hx hb dX10_wall_8 (by decide) ?_
  refine he_ci (wc := []) (wr := [(aI g p3 6 st), (aI g p4 6 me), (oX8 s0 h0 a0 b0 e0), (oX4 h0 q0 q1 mo), (aI g q0 24 f), (oX10 x0 y0 ta z0 p0 dr pa to_ s0 im ki tr v0 rf), (oX6 p0 p1 p2 p3 p4 (nI w))]) (va_runS (As := [.int 2, .int 0, .int 3]) (rest := [.ref x0]) ⟨hx, hb, hml, hown, hts⟩ (c_X10_within l g 2 0 3 H.size) (va_cwS 3 hts gX10_wall_X10_within rfl rfl rfl (by decide +kernel) ⟨Nat.le_of_ble_eq_true rfl, Nat.le_of_ble_eq_true rfl⟩) (he_preS (wc := []) hK hP hD hS hA hE [] rfl rfl) rfl rfl hl.1 rfl (lv_room (Nat.le_of_ble_eq_true rfl)) dX10_wall_9 ⟨(Nat.le_of_ble_eq_true rfl), (Nat.le_of_ble_eq_true rfl)⟩) hP hD hS hA [] [0, 1, 2, 3, 4, 5, 6] rfl rfl rfl (by decide) (fun r_4 u_5 H locs h_6 hP hD hS => ?_)
  subst h_6
  have hP : va_P g.1 vwCl [(aI g p3 6 st), (aI g p4 6 me), (oX8 s0 h0 a0 b0 e0), (oX4 h0 q0 q1 mo), (aI g q0 24 f), (oX10 x0 y0 ta z0 p0 dr pa to_ s0 im ki tr v0 rf), (oX6 p0 p1 p2 p3 p4 (nI w))] H := hP
  have hD : va_D A [(aI g p3 6 st), (aI g p4 6 me), (oX8 s0 h0 a0 b0 e0), (oX4 h0 q0 q1 mo), (aI g q0 24 f), (oX10 x0 y0 ta z0 p0 dr pa to_ s0 im ki tr v0 rf), (oX6 p0 p1 p2 p3 p4 (nI w))] := hD
  refine he_top (1) (by decide) ?_
  refine he_cv (wc := []) (wr := [(aI g p3 6 st), (aI g p4 6 me), (oX8 s0 h0 a0 b0 e0), (oX4 h0 q0 q1 mo), (aI g q0 24 f), (oX10 x0 y0 ta z0 p0 dr pa to_ s0 im ki tr v0 rf), (oX6 p0 p1 p2 p3 p4 (nI w))]) (va_runV (As := [.int 1]) (rest := []) ⟨hx, hb, hml, hown, hts⟩ (c_X10_demand1 l g x0 H.size) (cwV 1 hts gX10_wall_X10_demand rfl rfl rfl (by decide +kernel) ⟨Nat.le_of_ble_eq_true rfl, Nat.le_of_ble_eq_true rfl⟩) (he_preV (wc := []) hK hP hD hS hA hE [] rfl rfl 5 rfl rfl) rfl rfl hl.1 rfl (lv_room (Nat.le_of_ble_eq_true rfl)) dX10_wall_12 ⟨(Nat.le_of_ble_eq_true rfl), (Nat.le_of_ble_eq_true rfl)⟩) hP hD hS hA [] [0, 1, 2, 3, 4, 5, 6] rfl rfl rfl (by decide) (fun u_8 H locs h_9 hP hD hS => ?_)
  have hP : va_P g.1 vwCl [(aI g p3 6 st), (aI g p4 6 me), (oX8 s0 h0 a0 b0 e0), (oX4 h0 q0 q1 mo), (aI g q0 24 f), (oX10 x0 y0 ta z0 p0 dr pa to_ s0 im ki tr v0 rf), (oX6 p0 p1 p2 p3 p4 (nI w))] H := hP
  have hD : va_D A [(aI g p3 6 st), (aI g p4 6 me), (oX8 s0 h0 a0 b0 e0), (oX4 h0 q0 q1 mo), (aI g q0 24 f), (oX10 x0 y0 ta z0 p0 dr pa to_ s0 im ki tr v0 rf), (oX6 p0 p1 p2 p3 p4 (nI w))] := hD
  refine lv_iload_n hx hb dX10_wall_15 rfl (lv_at hl 2 rfl) ?_
  refine lv_tableIn (tgt := 70) hx hb dX10_wall_16 (by decide) (by decide) rfl (by decide) ?_
  refine lv_aload_n hx hb dX10_wall_70 rfl (lv_at hl 0 rfl) ?_
  refine va_get (v := .ref p0) (T := TX10) (N := 13) hx hb hts inX10 hown hK hP 5 rfl rfl 3 (by decide) f23 (fun _ h9 => h9) rfl dX10_wall_71 ?_
  refine va_get (v := .ref p4) (T := TX6) (N := 5) hx hb hts inX6 hown hK hP 6 rfl rfl 3 (by decide) f123 (fun _ h9 => h9) rfl dX10_wall_74 ?_
  refine lv_iload_n hx hb dX10_wall_77 rfl (lv_at hl 1 rfl) ?_
  refine he_iald hx hb hK hP 1 rfl (j) rfl (by first | assumption | decide | omega) (by first | decide | assumption) (me j) rfl dX10_wall_78 ?_
  have hP := hP.sub (ws' := [(oX10 x0 y0 ta z0 p0 dr pa to_ s0 im ki tr v0 rf), (oX6 p0 p1 p2 p3 p4 (nI w)), (aI g p3 6 st), (aI g p4 6 me), (oX8 s0 h0 a0 b0 e0), (oX4 h0 q0 q1 mo), (aI g q0 24 f)]) [5, 6, 0, 1, 2, 3, 4] rfl
  have hD := hD.sub (ws' := [(oX10 x0 y0 ta z0 p0 dr pa to_ s0 im ki tr v0 rf), (oX6 p0 p1 p2 p3 p4 (nI w)), (aI g p3 6 st), (aI g p4 6 me), (oX8 s0 h0 a0 b0 e0), (oX4 h0 q0 q1 mo), (aI g q0 24 f)]) [5, 6, 0, 1, 2, 3, 4] (by decide) rfl
  exact he_ri hQ hx hb hr hlk hP hD hS dX10_wall_79 (Nat.le_of_ble_eq_true rfl) (Nat.le_of_ble_eq_true rfl) (()) (rfl) (rfl)
set_option maxHeartbeats 4000000 in
set_option maxRecDepth 100000 in
theorem s_X10_wall3 (l : Launch) (g : he_G) (x0 : Nat) (y0 : Nat) (z0 : Nat) (dr : Nat) (pa : Nat) (s0 : Nat) (im : Nat) (tr : Nat) (v0 : Nat) (rf : Nat) (ta : Int32) (to_ : Int32) (ki : Int32) (p0 : Nat) (p1 : Nat) (p2 : Nat) (p3 : Nat) (p4 : Nat) (w : Nat) (st : Nat → Int32) (me : Nat → Int32) (a0 : Nat) (b0 : Nat) (e0 : Nat) (h0 : Nat) (q0 : Nat) (q1 : Nat) (mo : Int32) (f : Nat → Int32) (j : Nat) (hw6 : w ≤ 6) (hj : j < w) : he_I l yX10_wall wsX10_wall 2 43 0 0 g [.ref x0, .int (nI j), .int 3] [(oX10 x0 y0 ta z0 p0 dr pa to_ s0 im ki tr v0 rf), (oX6 p0 p1 p2 p3 p4 (nI w)), (aI g p3 6 st), (aI g p4 6 me), (oX8 s0 h0 a0 b0 e0), (oX4 h0 q0 q1 mo), (aI g q0 24 f)] (fun (r : Int32) (u : Unit) => r = f (18 + j)) (fun (u : Unit) => [(oX10 x0 y0 ta z0 p0 dr pa to_ s0 im ki tr v0 rf), (oX6 p0 p1 p2 p3 p4 (nI w)), (aI g p3 6 st), (aI g p4 6 me), (oX8 s0 h0 a0 b0 e0), (oX4 h0 q0 q1 mo), (aI g q0 24 f)]) := by
  refine he_begin (l := l) (g := g) (y := yX10_wall) (wl := wsX10_wall) (fr := 2) (lo := 43) (mc := 0) (ms := 0) (av := [.ref x0, .int (nI j), .int 3]) (ws := [(oX10 x0 y0 ta z0 p0 dr pa to_ s0 im ki tr v0 rf), (oX6 p0 p1 p2 p3 p4 (nI w)), (aI g p3 6 st), (aI g p4 6 me), (oX8 s0 h0 a0 b0 e0), (oX4 h0 q0 q1 mo), (aI g q0 24 f)]) (cc := cX10_wall) (maxL := 3) (ret := (some .int)) (fun A => va_Qi (fun (r : Int32) (u : Unit) => r = f (18 + j)) (fun u t => he_post g A ((fun (u : Unit) => [(oX10 x0 y0 ta z0 p0 dr pa to_ s0 im ki tr v0 rf), (oX6 p0 p1 p2 p3 p4 (nI w)), (aI g p3 6 st), (aI g p4 6 me), (oX8 s0 h0 a0 b0 e0), (oX4 h0 q0 q1 mo), (aI g q0 24 f)]) u) t) A) (by decide) rfl (Nat.le_of_ble_eq_true rfl) ?_
  intro p e s m args below meth c A ls H locs Q hQ hB
  obtain ⟨hx, hb, hr, hml, hown, hts, hlk, hin, hP, hK, hD, hS, hA, hE, hl⟩ := hB
  have hl : lv_has ls 3 [(0, .ref x0), (1, .int (nI j)), (2, .int 3)] := hl
  have f39 := hts (.fieldLink RX10 39 "HiredEnemy" "scene" "LHiredEnemy$Scene;") (iwoX10_wall (k := 2) rfl)
  have inX10 : ∀ w ∈ wsX100, w ∈ wsX10_wall := innX10_wall_X10
  have f66 := hts (.fieldLink RX10 66 "HiredEnemy$Scene" "course" "LHiredEnemy$Course;") (iwoX10_wall (k := 3) rfl)
  have inX8 : ∀ w ∈ wsX80, w ∈ wsX10_wall := innX10_wall_X8
  have f111 := hts (.fieldLink RX10 111 "HiredEnemy$Course" "now" "[I") (iwoX10_wall (k := 4) rfl)
  have inX4 : ∀ w ∈ wsX40, w ∈ wsX10_wall := innX10_wall_X4
  refine lv_aload_n hx hb dX10_wall_0 rfl (lv_at hl 0 rfl) ?_
  refine lv_iload_n hx hb dX10_wall_1 rfl (lv_at hl 1 rfl) ?_
  refine he_cv (wc := [(oX10 x0 y0 ta z0 p0 dr pa to_ s0 im ki tr v0 rf), (oX6 p0 p1 p2 p3 p4 (nI w))]) (wr := [(aI g p3 6 st), (aI g p4 6 me), (oX8 s0 h0 a0 b0 e0), (oX4 h0 q0 q1 mo), (aI g q0 24 f)]) (va_runV (As := [.int (nI j)]) (rest := []) ⟨hx, hb, hml, hown, hts⟩ (g_X10_demandWall1 l g x0 y0 z0 dr pa s0 im tr v0 rf ta to_ ki p0 p1 p2 p3 p4 w (nI j) (wall_in hj (by omega)) H.size) (cwV 1 hts gX10_wall_X10_demandWall rfl rfl rfl (by decide +kernel) ⟨Nat.le_of_ble_eq_true rfl, Nat.le_of_ble_eq_true rfl⟩) (he_preV (wc := [(oX10 x0 y0 ta z0 p0 dr pa to_ s0 im ki tr v0 rf), (oX6 p0 p1 p2 p3 p4 (nI w))]) hK hP hD hS hA hE [0, 1] rfl rfl 0 rfl rfl) rfl rfl hl.1 rfl (lv_room (Nat.le_of_ble_eq_true rfl)) dX10_wall_2 ⟨(Nat.le_of_ble_eq_true rfl), (Nat.le_of_ble_eq_true rfl)⟩) hP hD hS hA [0, 1] [2, 3, 4, 5, 6] rfl rfl rfl (by decide) (fun u_2 H locs h_3 hP hD hS => ?_)
  have hP : va_P g.1 vwCl [(aI g p3 6 st), (aI g p4 6 me), (oX8 s0 h0 a0 b0 e0), (oX4 h0 q0 q1 mo), (aI g q0 24 f), (oX10 x0 y0 ta z0 p0 dr pa to_ s0 im ki tr v0 rf), (oX6 p0 p1 p2 p3 p4 (nI w))] H := hP
  have hD : va_D A [(aI g p3 6 st), (aI g p4 6 me), (oX8 s0 h0 a0 b0 e0), (oX4 h0 q0 q1 mo), (aI g q0 24 f), (oX10 x0 y0 ta z0 p0 dr pa to_ s0 im ki tr v0 rf), (oX6 p0 p1 p2 p3 p4 (nI w))] := hD
  refine lv_aload_n hx hb dX10_wall_5 rfl (lv_at hl 0 rfl) ?_
  refine lv_iload_n hx hb dX10_wall_6 rfl (lv_at hl 2 rfl) ?_
  refine lv_iconst (v := 0) hx hb dX10_wall_7 (by decide) ?_
  refine lv_iconst (v := 3) hx hb dX10_wall_8 (by decide) ?_
  refine he_ci (wc := []) (wr := [(aI g p3 6 st), (aI g p4 6 me), (oX8 s0 h0 a0 b0 e0), (oX4 h0 q0 q1 mo), (aI g q0 24 f), (oX10 x0 y0 ta z0 p0 dr pa to_ s0 im ki tr v0 rf), (oX6 p0 p1 p2 p3 p4 (nI w))]) (va_runS (As := [.int 3, .int 0, .int 3]) (rest := [.ref x0]) ⟨hx, hb, hml, hown, hts⟩ (c_X10_within l g 3 0 3 H.size) (va_cwS 3 hts gX10_wall_X10_within rfl rfl rfl (by decide +kernel) ⟨Nat.le_of_ble_eq_true rfl, Nat.le_of_ble_eq_true rfl⟩) (he_preS (wc := []) hK hP hD hS hA hE [] rfl rfl) rfl rfl hl.1 rfl (lv_room (Nat.le_of_ble_eq_true rfl)) dX10_wall_9 ⟨(Nat.le_of_ble_eq_true rfl), (Nat.le_of_ble_eq_true rfl)⟩) hP hD hS hA [] [0, 1, 2, 3, 4, 5, 6] rfl rfl rfl (by decide) (fun r_4 u_5 H locs h_6 hP hD hS => ?_)
  subst h_6
  have hP : va_P g.1 vwCl [(aI g p3 6 st), (aI g p4 6 me), (oX8 s0 h0 a0 b0 e0), (oX4 h0 q0 q1 mo), (aI g q0 24 f), (oX10 x0 y0 ta z0 p0 dr pa to_ s0 im ki tr v0 rf), (oX6 p0 p1 p2 p3 p4 (nI w))] H := hP
  have hD : va_D A [(aI g p3 6 st), (aI g p4 6 me), (oX8 s0 h0 a0 b0 e0), (oX4 h0 q0 q1 mo), (aI g q0 24 f), (oX10 x0 y0 ta z0 p0 dr pa to_ s0 im ki tr v0 rf), (oX6 p0 p1 p2 p3 p4 (nI w))] := hD
  refine he_top (1) (by decide) ?_
  refine he_cv (wc := []) (wr := [(aI g p3 6 st), (aI g p4 6 me), (oX8 s0 h0 a0 b0 e0), (oX4 h0 q0 q1 mo), (aI g q0 24 f), (oX10 x0 y0 ta z0 p0 dr pa to_ s0 im ki tr v0 rf), (oX6 p0 p1 p2 p3 p4 (nI w))]) (va_runV (As := [.int 1]) (rest := []) ⟨hx, hb, hml, hown, hts⟩ (c_X10_demand1 l g x0 H.size) (cwV 1 hts gX10_wall_X10_demand rfl rfl rfl (by decide +kernel) ⟨Nat.le_of_ble_eq_true rfl, Nat.le_of_ble_eq_true rfl⟩) (he_preV (wc := []) hK hP hD hS hA hE [] rfl rfl 5 rfl rfl) rfl rfl hl.1 rfl (lv_room (Nat.le_of_ble_eq_true rfl)) dX10_wall_12 ⟨(Nat.le_of_ble_eq_true rfl), (Nat.le_of_ble_eq_true rfl)⟩) hP hD hS hA [] [0, 1, 2, 3, 4, 5, 6] rfl rfl rfl (by decide) (fun u_8 H locs h_9 hP hD hS => ?_)
  have hP : va_P g.1 vwCl [(aI g p3 6 st), (aI g p4 6 me), (oX8 s0 h0 a0 b0 e0), (oX4 h0 q0 q1 mo), (aI g q0 24 f), (oX10 x0 y0 ta z0 p0 dr pa to_ s0 im ki tr v0 rf), (oX6 p0 p1 p2 p3 p4 (nI w))] H := hP
  have hD : va_D A [(aI g p3 6 st), (aI g p4 6 me), (oX8 s0 h0 a0 b0 e0), (oX4 h0 q0 q1 mo), (aI g q0 24 f), (oX10 x0 y0 ta z0 p0 dr pa to_ s0 im ki tr v0 rf), (oX6 p0 p1 p2 p3 p4 (nI w))] := hD
  refine lv_iload_n hx hb dX10_wall_15 rfl (lv_at hl 2 rfl) ?_
  refine lv_tableOut (tgt := 80) hx hb dX10_wall_16 (by decide) (by decide) ?_
  refine lv_aload_n hx hb dX10_wall_80 rfl (lv_at hl 0 rfl) ?_
  refine va_get (v := .ref s0) (T := TX10) (N := 13) hx hb hts inX10 hown hK hP 5 rfl rfl 7 (by decide) f39 (fun _ h9 => h9) rfl dX10_wall_81 ?_
  refine va_get (v := .ref h0) (T := TX8) (N := 4) hx hb hts inX8 hown hK hP 2 rfl rfl 0 (by decide) f66 (fun _ h9 => h9) rfl dX10_wall_84 ?_
  refine va_get (v := .ref q0) (T := TX4) (N := 3) hx hb hts inX4 hown hK hP 3 rfl rfl 0 (by decide) f111 (fun _ h9 => h9) rfl dX10_wall_87 ?_
  refine lv_bipush (v := 18) hx hb dX10_wall_90 (by decide) ?_
  refine lv_iload_n hx hb dX10_wall_92 rfl (lv_at hl 1 rfl) ?_
  refine lv_iadd hx hb dX10_wall_93 ?_
  refine he_top (nI (18 + j)) (nI_add 18 j) ?_
  refine he_iald hx hb hK hP 4 rfl (18 + j) rfl (by first | assumption | decide | omega) (by first | decide | assumption) (f (18 + j)) rfl dX10_wall_94 ?_
  have hP := hP.sub (ws' := [(oX10 x0 y0 ta z0 p0 dr pa to_ s0 im ki tr v0 rf), (oX6 p0 p1 p2 p3 p4 (nI w)), (aI g p3 6 st), (aI g p4 6 me), (oX8 s0 h0 a0 b0 e0), (oX4 h0 q0 q1 mo), (aI g q0 24 f)]) [5, 6, 0, 1, 2, 3, 4] rfl
  have hD := hD.sub (ws' := [(oX10 x0 y0 ta z0 p0 dr pa to_ s0 im ki tr v0 rf), (oX6 p0 p1 p2 p3 p4 (nI w)), (aI g p3 6 st), (aI g p4 6 me), (oX8 s0 h0 a0 b0 e0), (oX4 h0 q0 q1 mo), (aI g q0 24 f)]) [5, 6, 0, 1, 2, 3, 4] (by decide) rfl
  exact he_ri hQ hx hb hr hlk hP hD hS dX10_wall_95 (Nat.le_of_ble_eq_true rfl) (Nat.le_of_ble_eq_true rfl) (()) (rfl) (rfl)
set_option maxHeartbeats 4000000 in
set_option maxRecDepth 100000 in
theorem s_X10_rule (l : Launch) (g : he_G) (x0 : Nat) (y0 : Nat) (z0 : Nat) (p0 : Nat) (dr : Nat) (pa : Nat) (s0 : Nat) (im : Nat) (tr : Nat) (v0 : Nat) (rf : Nat) (nt : Nat) (ta : Int32) (ki : Int32) (k : Nat) (t0 : Nat) (t1 : Nat) (t2 : Nat) (pw : Int32) (pd : Nat → Int32) (wb : Nat → Int32) (pf : Nat → Option Nat) (ci : Nat) (hci : ci < nt) (hnt : nt ≤ 6) (hk : k ≤ 6) (hpf : pf ci = some t0) : he_I l yX10_rule wsX10_rule 2 46 0 0 g [.ref x0, .int (nI ci), .int (nI k)] [(oX10 x0 y0 ta z0 p0 dr pa (nI nt) s0 im ki tr v0 rf), (aP g pa 7 pf), (oX5 t0 t1 t2 pw), (aI g t1 6 pd), (aI g t2 36 wb)] (fun (r : Int32) (u : Unit) => r = rlA pd wb k) (fun (u : Unit) => [(oX10 x0 y0 ta z0 p0 dr pa (nI nt) s0 im ki tr v0 rf), (aP g pa 7 pf), (oX5 t0 t1 t2 pw), (aI g t1 6 pd), (aI g t2 36 wb)]) := by
  refine he_begin (l := l) (g := g) (y := yX10_rule) (wl := wsX10_rule) (fr := 2) (lo := 46) (mc := 0) (ms := 0) (av := [.ref x0, .int (nI ci), .int (nI k)]) (ws := [(oX10 x0 y0 ta z0 p0 dr pa (nI nt) s0 im ki tr v0 rf), (aP g pa 7 pf), (oX5 t0 t1 t2 pw), (aI g t1 6 pd), (aI g t2 36 wb)]) (cc := cX10_rule) (maxL := 3) (ret := (some .int)) (fun A => va_Qi (fun (r : Int32) (u : Unit) => r = rlA pd wb k) (fun u t => he_post g A ((fun (u : Unit) => [(oX10 x0 y0 ta z0 p0 dr pa (nI nt) s0 im ki tr v0 rf), (aP g pa 7 pf), (oX5 t0 t1 t2 pw), (aI g t1 6 pd), (aI g t2 36 wb)]) u) t) A) (by decide) rfl (Nat.le_of_ble_eq_true rfl) ?_
  intro p e s m args below meth c A ls H locs Q hQ hB
  obtain ⟨hx, hb, hr, hml, hown, hts, hlk, hin, hP, hK, hD, hS, hA, hE, hl⟩ := hB
  have hl : lv_has ls 3 [(0, .ref x0), (1, .int (nI ci)), (2, .int (nI k))] := hl
  have f32 := hts (.fieldLink RX10 32 "HiredEnemy" "pacts" "[LHiredEnemy$Pact;") (iwoX10_rule (k := 0) rfl)
  have inX10 : ∀ w ∈ wsX100, w ∈ wsX10_rule := innX10_rule_X10
  refine lv_aload_n hx hb dX10_rule_0 rfl (lv_at hl 0 rfl) ?_
  refine lv_iload_n hx hb dX10_rule_1 rfl (lv_at hl 1 rfl) ?_
  refine he_cv (wc := [(oX10 x0 y0 ta z0 p0 dr pa (nI nt) s0 im ki tr v0 rf)]) (wr := [(aP g pa 7 pf), (oX5 t0 t1 t2 pw), (aI g t1 6 pd), (aI g t2 36 wb)]) (va_runV (As := [.int (nI ci)]) (rest := []) ⟨hx, hb, hml, hown, hts⟩ (g_X10_demandContract1 l g x0 y0 z0 p0 dr pa s0 im tr v0 rf ta (nI nt) ki (nI ci) (wall_in hci (by omega)) H.size) (cwV 1 hts gX10_rule_X10_demandContract rfl rfl rfl (by decide +kernel) ⟨Nat.le_of_ble_eq_true rfl, Nat.le_of_ble_eq_true rfl⟩) (he_preV (wc := [(oX10 x0 y0 ta z0 p0 dr pa (nI nt) s0 im ki tr v0 rf)]) hK hP hD hS hA hE [0] rfl rfl 0 rfl rfl) rfl rfl hl.1 rfl (lv_room (Nat.le_of_ble_eq_true rfl)) dX10_rule_2 ⟨(Nat.le_of_ble_eq_true rfl), (Nat.le_of_ble_eq_true rfl)⟩) hP hD hS hA [0] [1, 2, 3, 4] rfl rfl rfl (by decide) (fun u_2 H locs h_3 hP hD hS => ?_)
  have hP : va_P g.1 vwCl [(aP g pa 7 pf), (oX5 t0 t1 t2 pw), (aI g t1 6 pd), (aI g t2 36 wb), (oX10 x0 y0 ta z0 p0 dr pa (nI nt) s0 im ki tr v0 rf)] H := hP
  have hD : va_D A [(aP g pa 7 pf), (oX5 t0 t1 t2 pw), (aI g t1 6 pd), (aI g t2 36 wb), (oX10 x0 y0 ta z0 p0 dr pa (nI nt) s0 im ki tr v0 rf)] := hD
  refine lv_aload_n hx hb dX10_rule_5 rfl (lv_at hl 0 rfl) ?_
  refine lv_iload_n hx hb dX10_rule_6 rfl (lv_at hl 2 rfl) ?_
  refine lv_iconst (v := 0) hx hb dX10_rule_7 (by decide) ?_
  refine lv_bipush (v := 6) hx hb dX10_rule_8 (by decide) ?_
  refine he_ci (wc := []) (wr := [(aP g pa 7 pf), (oX5 t0 t1 t2 pw), (aI g t1 6 pd), (aI g t2 36 wb), (oX10 x0 y0 ta z0 p0 dr pa (nI nt) s0 im ki tr v0 rf)]) (va_runS (As := [.int (nI k), .int 0, .int 6]) (rest := [.ref x0]) ⟨hx, hb, hml, hown, hts⟩ (c_X10_within l g (nI k) 0 6 H.size) (va_cwS 3 hts gX10_rule_X10_within rfl rfl rfl (by decide +kernel) ⟨Nat.le_of_ble_eq_true rfl, Nat.le_of_ble_eq_true rfl⟩) (he_preS (wc := []) hK hP hD hS hA hE [] rfl rfl) rfl rfl hl.1 rfl (lv_room (Nat.le_of_ble_eq_true rfl)) dX10_rule_10 ⟨(Nat.le_of_ble_eq_true rfl), (Nat.le_of_ble_eq_true rfl)⟩) hP hD hS hA [] [0, 1, 2, 3, 4] rfl rfl rfl (by decide) (fun r_4 u_5 H locs h_6 hP hD hS => ?_)
  subst h_6
  have hP : va_P g.1 vwCl [(aP g pa 7 pf), (oX5 t0 t1 t2 pw), (aI g t1 6 pd), (aI g t2 36 wb), (oX10 x0 y0 ta z0 p0 dr pa (nI nt) s0 im ki tr v0 rf)] H := hP
  have hD : va_D A [(aP g pa 7 pf), (oX5 t0 t1 t2 pw), (aI g t1 6 pd), (aI g t2 36 wb), (oX10 x0 y0 ta z0 p0 dr pa (nI nt) s0 im ki tr v0 rf)] := hD
  refine he_top (1) (he_within_in (a0 := 0) (B := 6) rfl rfl (by omega) (by omega) (by decide)) ?_
  refine he_cv (wc := []) (wr := [(aP g pa 7 pf), (oX5 t0 t1 t2 pw), (aI g t1 6 pd), (aI g t2 36 wb), (oX10 x0 y0 ta z0 p0 dr pa (nI nt) s0 im ki tr v0 rf)]) (va_runV (As := [.int 1]) (rest := []) ⟨hx, hb, hml, hown, hts⟩ (c_X10_demand1 l g x0 H.size) (cwV 1 hts gX10_rule_X10_demand rfl rfl rfl (by decide +kernel) ⟨Nat.le_of_ble_eq_true rfl, Nat.le_of_ble_eq_true rfl⟩) (he_preV (wc := []) hK hP hD hS hA hE [] rfl rfl 4 rfl rfl) rfl rfl hl.1 rfl (lv_room (Nat.le_of_ble_eq_true rfl)) dX10_rule_13 ⟨(Nat.le_of_ble_eq_true rfl), (Nat.le_of_ble_eq_true rfl)⟩) hP hD hS hA [] [0, 1, 2, 3, 4] rfl rfl rfl (by decide) (fun u_8 H locs h_9 hP hD hS => ?_)
  have hP : va_P g.1 vwCl [(aP g pa 7 pf), (oX5 t0 t1 t2 pw), (aI g t1 6 pd), (aI g t2 36 wb), (oX10 x0 y0 ta z0 p0 dr pa (nI nt) s0 im ki tr v0 rf)] H := hP
  have hD : va_D A [(aP g pa 7 pf), (oX5 t0 t1 t2 pw), (aI g t1 6 pd), (aI g t2 36 wb), (oX10 x0 y0 ta z0 p0 dr pa (nI nt) s0 im ki tr v0 rf)] := hD
  refine lv_aload_n hx hb dX10_rule_16 rfl (lv_at hl 0 rfl) ?_
  refine va_get (v := .ref pa) (T := TX10) (N := 13) hx hb hts inX10 hown hK hP 4 rfl rfl 5 (by decide) f32 (fun _ h9 => h9) rfl dX10_rule_17 ?_
  refine lv_iload_n hx hb dX10_rule_20 rfl (lv_at hl 1 rfl) ?_
  refine he_ald hx hb 2 rfl hK hP 0 rfl (ci) rfl (by first | assumption | decide | omega) (by first | decide | assumption) (.ref t0) (by rw [hpf]; rfl) dX10_rule_21 ?_
  refine lv_iload_n hx hb dX10_rule_22 rfl (lv_at hl 2 rfl) ?_
  refine he_ci (wc := [(oX5 t0 t1 t2 pw), (aI g t1 6 pd), (aI g t2 36 wb)]) (wr := [(aP g pa 7 pf), (oX10 x0 y0 ta z0 p0 dr pa (nI nt) s0 im ki tr v0 rf)]) (va_runV (As := [.int (nI k)]) (rest := []) ⟨hx, hb, hml, hown, hts⟩ (s_X5_answer l g t0 t1 t2 pw pd wb k (by first | assumption | decide | omega) H.size) (cwV 1 hts gX10_rule_X5_answer rfl rfl rfl (by decide +kernel) ⟨Nat.le_of_ble_eq_true rfl, Nat.le_of_ble_eq_true rfl⟩) (he_preV (wc := [(oX5 t0 t1 t2 pw), (aI g t1 6 pd), (aI g t2 36 wb)]) hK hP hD hS hA hE [1, 2, 3] rfl rfl 1 rfl rfl) rfl rfl hl.1 rfl (lv_room (Nat.le_of_ble_eq_true rfl)) dX10_rule_23 ⟨(Nat.le_of_ble_eq_true rfl), (Nat.le_of_ble_eq_true rfl)⟩) hP hD hS hA [1, 2, 3] [0, 4] rfl rfl rfl (by decide) (fun r_10 u_11 H locs h_12 hP hD hS => ?_)
  subst h_12
  have hP : va_P g.1 vwCl [(aP g pa 7 pf), (oX10 x0 y0 ta z0 p0 dr pa (nI nt) s0 im ki tr v0 rf), (oX5 t0 t1 t2 pw), (aI g t1 6 pd), (aI g t2 36 wb)] H := hP
  have hD : va_D A [(aP g pa 7 pf), (oX10 x0 y0 ta z0 p0 dr pa (nI nt) s0 im ki tr v0 rf), (oX5 t0 t1 t2 pw), (aI g t1 6 pd), (aI g t2 36 wb)] := hD
  have hP := hP.sub (ws' := [(oX10 x0 y0 ta z0 p0 dr pa (nI nt) s0 im ki tr v0 rf), (aP g pa 7 pf), (oX5 t0 t1 t2 pw), (aI g t1 6 pd), (aI g t2 36 wb)]) [1, 0, 2, 3, 4] rfl
  have hD := hD.sub (ws' := [(oX10 x0 y0 ta z0 p0 dr pa (nI nt) s0 im ki tr v0 rf), (aP g pa 7 pf), (oX5 t0 t1 t2 pw), (aI g t1 6 pd), (aI g t2 36 wb)]) [1, 0, 2, 3, 4] (by decide) rfl
  exact he_ri hQ hx hb hr hlk hP hD hS dX10_rule_26 (Nat.le_of_ble_eq_true rfl) (Nat.le_of_ble_eq_true rfl) (()) (rfl) (rfl)
set_option maxHeartbeats 4000000 in
set_option maxRecDepth 100000 in
theorem s_X10_corks (l : Launch) (g : he_G) (x0 : Nat) (y0 : Nat) (z0 : Nat) (dr : Nat) (pa : Nat) (s0 : Nat) (im : Nat) (tr : Nat) (v0 : Nat) (rf : Nat) (ta : Int32) (to_ : Int32) (ki : Int32) (p0 : Nat) (p1 : Nat) (p2 : Nat) (p3 : Nat) (p4 : Nat) (w : Nat) (a0 : Nat) (b0 : Nat) (e0 : Nat) (h0 : Nat) (q0 : Nat) (q1 : Nat) (k : Nat) (a1 : Nat) (f : Nat → Int32) (ln : Nat → Int32) (i : Nat) (j : Nat) (hw6 : w ≤ 6) (hj : j < w) (hi : i ≤ 119) (hk : k ≤ 120) : he_I l yX10_corks wsX10_corks 2 43 0 0 g [.ref x0, .int (nI i), .int (nI j)] [(oX10 x0 y0 ta z0 p0 dr pa to_ s0 im ki tr v0 rf), (oX6 p0 p1 p2 p3 p4 (nI w)), (oX8 s0 h0 a0 b0 e0), (oX4 h0 q0 q1 (nI k)), (aI g q0 24 f), (oX0 a0 a1), (aI g a1 3600 ln)] (fun (r : Int32) (u : Unit) => r = if i < k then ln (i * 30 + 24 + j) else 0) (fun (u : Unit) => [(oX10 x0 y0 ta z0 p0 dr pa to_ s0 im ki tr v0 rf), (oX6 p0 p1 p2 p3 p4 (nI w)), (oX8 s0 h0 a0 b0 e0), (oX4 h0 q0 q1 (nI k)), (aI g q0 24 f), (oX0 a0 a1), (aI g a1 3600 ln)]) := by
  refine he_begin (l := l) (g := g) (y := yX10_corks) (wl := wsX10_corks) (fr := 2) (lo := 43) (mc := 0) (ms := 0) (av := [.ref x0, .int (nI i), .int (nI j)]) (ws := [(oX10 x0 y0 ta z0 p0 dr pa to_ s0 im ki tr v0 rf), (oX6 p0 p1 p2 p3 p4 (nI w)), (oX8 s0 h0 a0 b0 e0), (oX4 h0 q0 q1 (nI k)), (aI g q0 24 f), (oX0 a0 a1), (aI g a1 3600 ln)]) (cc := cX10_corks) (maxL := 3) (ret := (some .int)) (fun A => va_Qi (fun (r : Int32) (u : Unit) => r = if i < k then ln (i * 30 + 24 + j) else 0) (fun u t => he_post g A ((fun (u : Unit) => [(oX10 x0 y0 ta z0 p0 dr pa to_ s0 im ki tr v0 rf), (oX6 p0 p1 p2 p3 p4 (nI w)), (oX8 s0 h0 a0 b0 e0), (oX4 h0 q0 q1 (nI k)), (aI g q0 24 f), (oX0 a0 a1), (aI g a1 3600 ln)]) u) t) A) (by decide) rfl (Nat.le_of_ble_eq_true rfl) ?_
  intro p e s m args below meth c A ls H locs Q hQ hB
  obtain ⟨hx, hb, hr, hml, hown, hts, hlk, hin, hP, hK, hD, hS, hA, hE, hl⟩ := hB
  have hl : lv_has ls 3 [(0, .ref x0), (1, .int (nI i)), (2, .int (nI j))] := hl
  have f39 := hts (.fieldLink RX10 39 "HiredEnemy" "scene" "LHiredEnemy$Scene;") (iwoX10_corks (k := 0) rfl)
  have inX10 : ∀ w ∈ wsX100, w ∈ wsX10_corks := innX10_corks_X10
  have f66 := hts (.fieldLink RX10 66 "HiredEnemy$Scene" "course" "LHiredEnemy$Course;") (iwoX10_corks (k := 1) rfl)
  have inX8 : ∀ w ∈ wsX80, w ∈ wsX10_corks := innX10_corks_X8
  have f114 := hts (.fieldLink RX10 114 "HiredEnemy$Course" "month" "I") (iwoX10_corks (k := 2) rfl)
  have inX4 : ∀ w ∈ wsX40, w ∈ wsX10_corks := innX10_corks_X4
  have f143 := hts (.fieldLink RX10 143 "HiredEnemy$Scene" "annals" "LHiredEnemy$Annals;") (iwoX10_corks (k := 3) rfl)
  refine lv_aload_n hx hb dX10_corks_0 rfl (lv_at hl 0 rfl) ?_
  refine lv_iload_n hx hb dX10_corks_1 rfl (lv_at hl 2 rfl) ?_
  refine he_cv (wc := [(oX10 x0 y0 ta z0 p0 dr pa to_ s0 im ki tr v0 rf), (oX6 p0 p1 p2 p3 p4 (nI w))]) (wr := [(oX8 s0 h0 a0 b0 e0), (oX4 h0 q0 q1 (nI k)), (aI g q0 24 f), (oX0 a0 a1), (aI g a1 3600 ln)]) (va_runV (As := [.int (nI j)]) (rest := []) ⟨hx, hb, hml, hown, hts⟩ (g_X10_demandWall1 l g x0 y0 z0 dr pa s0 im tr v0 rf ta to_ ki p0 p1 p2 p3 p4 w (nI j) (wall_in hj (by omega)) H.size) (cwV 1 hts gX10_corks_X10_demandWall rfl rfl rfl (by decide +kernel) ⟨Nat.le_of_ble_eq_true rfl, Nat.le_of_ble_eq_true rfl⟩) (he_preV (wc := [(oX10 x0 y0 ta z0 p0 dr pa to_ s0 im ki tr v0 rf), (oX6 p0 p1 p2 p3 p4 (nI w))]) hK hP hD hS hA hE [0, 1] rfl rfl 0 rfl rfl) rfl rfl hl.1 rfl (lv_room (Nat.le_of_ble_eq_true rfl)) dX10_corks_2 ⟨(Nat.le_of_ble_eq_true rfl), (Nat.le_of_ble_eq_true rfl)⟩) hP hD hS hA [0, 1] [2, 3, 4, 5, 6] rfl rfl rfl (by decide) (fun u_2 H locs h_3 hP hD hS => ?_)
  have hP : va_P g.1 vwCl [(oX8 s0 h0 a0 b0 e0), (oX4 h0 q0 q1 (nI k)), (aI g q0 24 f), (oX0 a0 a1), (aI g a1 3600 ln), (oX10 x0 y0 ta z0 p0 dr pa to_ s0 im ki tr v0 rf), (oX6 p0 p1 p2 p3 p4 (nI w))] H := hP
  have hD : va_D A [(oX8 s0 h0 a0 b0 e0), (oX4 h0 q0 q1 (nI k)), (aI g q0 24 f), (oX0 a0 a1), (aI g a1 3600 ln), (oX10 x0 y0 ta z0 p0 dr pa to_ s0 im ki tr v0 rf), (oX6 p0 p1 p2 p3 p4 (nI w))] := hD
  refine lv_aload_n hx hb dX10_corks_5 rfl (lv_at hl 0 rfl) ?_
  refine lv_iload_n hx hb dX10_corks_6 rfl (lv_at hl 1 rfl) ?_
  refine lv_iconst (v := 0) hx hb dX10_corks_7 (by decide) ?_
  refine lv_bipush (v := 119) hx hb dX10_corks_8 (by decide) ?_
  refine he_ci (wc := []) (wr := [(oX8 s0 h0 a0 b0 e0), (oX4 h0 q0 q1 (nI k)), (aI g q0 24 f), (oX0 a0 a1), (aI g a1 3600 ln), (oX10 x0 y0 ta z0 p0 dr pa to_ s0 im ki tr v0 rf), (oX6 p0 p1 p2 p3 p4 (nI w))]) (va_runS (As := [.int (nI i), .int 0, .int 119]) (rest := [.ref x0]) ⟨hx, hb, hml, hown, hts⟩ (c_X10_within l g (nI i) 0 119 H.size) (va_cwS 3 hts gX10_corks_X10_within rfl rfl rfl (by decide +kernel) ⟨Nat.le_of_ble_eq_true rfl, Nat.le_of_ble_eq_true rfl⟩) (he_preS (wc := []) hK hP hD hS hA hE [] rfl rfl) rfl rfl hl.1 rfl (lv_room (Nat.le_of_ble_eq_true rfl)) dX10_corks_10 ⟨(Nat.le_of_ble_eq_true rfl), (Nat.le_of_ble_eq_true rfl)⟩) hP hD hS hA [] [0, 1, 2, 3, 4, 5, 6] rfl rfl rfl (by decide) (fun r_4 u_5 H locs h_6 hP hD hS => ?_)
  subst h_6
  have hP : va_P g.1 vwCl [(oX8 s0 h0 a0 b0 e0), (oX4 h0 q0 q1 (nI k)), (aI g q0 24 f), (oX0 a0 a1), (aI g a1 3600 ln), (oX10 x0 y0 ta z0 p0 dr pa to_ s0 im ki tr v0 rf), (oX6 p0 p1 p2 p3 p4 (nI w))] H := hP
  have hD : va_D A [(oX8 s0 h0 a0 b0 e0), (oX4 h0 q0 q1 (nI k)), (aI g q0 24 f), (oX0 a0 a1), (aI g a1 3600 ln), (oX10 x0 y0 ta z0 p0 dr pa to_ s0 im ki tr v0 rf), (oX6 p0 p1 p2 p3 p4 (nI w))] := hD
  refine he_top (1) (he_within_in (a0 := 0) (B := 119) rfl rfl (by omega) (by omega) (by decide)) ?_
  refine he_cv (wc := []) (wr := [(oX8 s0 h0 a0 b0 e0), (oX4 h0 q0 q1 (nI k)), (aI g q0 24 f), (oX0 a0 a1), (aI g a1 3600 ln), (oX10 x0 y0 ta z0 p0 dr pa to_ s0 im ki tr v0 rf), (oX6 p0 p1 p2 p3 p4 (nI w))]) (va_runV (As := [.int 1]) (rest := []) ⟨hx, hb, hml, hown, hts⟩ (c_X10_demand1 l g x0 H.size) (cwV 1 hts gX10_corks_X10_demand rfl rfl rfl (by decide +kernel) ⟨Nat.le_of_ble_eq_true rfl, Nat.le_of_ble_eq_true rfl⟩) (he_preV (wc := []) hK hP hD hS hA hE [] rfl rfl 5 rfl rfl) rfl rfl hl.1 rfl (lv_room (Nat.le_of_ble_eq_true rfl)) dX10_corks_13 ⟨(Nat.le_of_ble_eq_true rfl), (Nat.le_of_ble_eq_true rfl)⟩) hP hD hS hA [] [0, 1, 2, 3, 4, 5, 6] rfl rfl rfl (by decide) (fun u_8 H locs h_9 hP hD hS => ?_)
  have hP : va_P g.1 vwCl [(oX8 s0 h0 a0 b0 e0), (oX4 h0 q0 q1 (nI k)), (aI g q0 24 f), (oX0 a0 a1), (aI g a1 3600 ln), (oX10 x0 y0 ta z0 p0 dr pa to_ s0 im ki tr v0 rf), (oX6 p0 p1 p2 p3 p4 (nI w))] H := hP
  have hD : va_D A [(oX8 s0 h0 a0 b0 e0), (oX4 h0 q0 q1 (nI k)), (aI g q0 24 f), (oX0 a0 a1), (aI g a1 3600 ln), (oX10 x0 y0 ta z0 p0 dr pa to_ s0 im ki tr v0 rf), (oX6 p0 p1 p2 p3 p4 (nI w))] := hD
  refine lv_iload_n hx hb dX10_corks_16 rfl (lv_at hl 1 rfl) ?_
  refine lv_aload_n hx hb dX10_corks_17 rfl (lv_at hl 0 rfl) ?_
  refine va_get (v := .ref s0) (T := TX10) (N := 13) hx hb hts inX10 hown hK hP 5 rfl rfl 7 (by decide) f39 (fun _ h9 => h9) rfl dX10_corks_18 ?_
  refine va_get (v := .ref h0) (T := TX8) (N := 4) hx hb hts inX8 hown hK hP 0 rfl rfl 0 (by decide) f66 (fun _ h9 => h9) rfl dX10_corks_21 ?_
  refine va_get (v := .int (nI k)) (T := TX4) (N := 3) hx hb hts inX4 hown hK hP 1 rfl rfl 2 (by decide) f114 (fun _ h9 => h9) rfl dX10_corks_24 ?_
  refine lv_icmp_ge (tgt := 45) hx hb dX10_corks_27 (by decide) (fun c_10 => ?_) (fun c_10 => ?_)
  · have k_11 : k ≤ i := (he_cle (a := k) (b := i) rfl rfl (by omega) (by omega)).mp c_10
    refine lv_iconst (v := 0) hx hb dX10_corks_45 (by decide) ?_
    have hP := hP.sub (ws' := [(oX10 x0 y0 ta z0 p0 dr pa to_ s0 im ki tr v0 rf), (oX6 p0 p1 p2 p3 p4 (nI w)), (oX8 s0 h0 a0 b0 e0), (oX4 h0 q0 q1 (nI k)), (aI g q0 24 f), (oX0 a0 a1), (aI g a1 3600 ln)]) [5, 6, 0, 1, 2, 3, 4] rfl
    have hD := hD.sub (ws' := [(oX10 x0 y0 ta z0 p0 dr pa to_ s0 im ki tr v0 rf), (oX6 p0 p1 p2 p3 p4 (nI w)), (oX8 s0 h0 a0 b0 e0), (oX4 h0 q0 q1 (nI k)), (aI g q0 24 f), (oX0 a0 a1), (aI g a1 3600 ln)]) [5, 6, 0, 1, 2, 3, 4] (by decide) rfl
    exact he_ri hQ hx hb hr hlk hP hD hS dX10_corks_46 (Nat.le_of_ble_eq_true rfl) (Nat.le_of_ble_eq_true rfl) (()) (rfl) ((by rw [if_neg (by omega)]))
  · have k_12 : ¬ (k ≤ i) := fun h9 => c_10 ((he_cle (a := k) (b := i) rfl rfl (by omega) (by omega)).mpr h9)
    refine lv_aload_n hx hb dX10_corks_30 rfl (lv_at hl 0 rfl) ?_
    refine va_get (v := .ref s0) (T := TX10) (N := 13) hx hb hts inX10 hown hK hP 5 rfl rfl 7 (by decide) f39 (fun _ h9 => h9) rfl dX10_corks_31 ?_
    refine va_get (v := .ref a0) (T := TX8) (N := 4) hx hb hts inX8 hown hK hP 0 rfl rfl 1 (by decide) f143 (fun _ h9 => h9) rfl dX10_corks_34 ?_
    refine lv_iload_n hx hb dX10_corks_37 rfl (lv_at hl 1 rfl) ?_
    refine lv_iload_n hx hb dX10_corks_38 rfl (lv_at hl 2 rfl) ?_
    refine he_ci (wc := [(oX0 a0 a1), (aI g a1 3600 ln)]) (wr := [(oX8 s0 h0 a0 b0 e0), (oX4 h0 q0 q1 (nI k)), (aI g q0 24 f), (oX10 x0 y0 ta z0 p0 dr pa to_ s0 im ki tr v0 rf), (oX6 p0 p1 p2 p3 p4 (nI w))]) (va_runV (As := [.int (nI i), .int (nI j)]) (rest := []) ⟨hx, hb, hml, hown, hts⟩ (g_X0_shotAt l g a0 a1 ln i j (by first | assumption | decide | omega) (by first | assumption | decide | omega) H.size) (cwV 2 hts gX10_corks_X0_shotAt rfl rfl rfl (by decide +kernel) ⟨Nat.le_of_ble_eq_true rfl, Nat.le_of_ble_eq_true rfl⟩) (he_preV (wc := [(oX0 a0 a1), (aI g a1 3600 ln)]) hK hP hD hS hA hE [3, 4] rfl rfl 3 rfl rfl) rfl rfl hl.1 rfl (lv_room (Nat.le_of_ble_eq_true rfl)) dX10_corks_39 ⟨(Nat.le_of_ble_eq_true rfl), (Nat.le_of_ble_eq_true rfl)⟩) hP hD hS hA [3, 4] [0, 1, 2, 5, 6] rfl rfl rfl (by decide) (fun r_13 u_14 H locs h_15 hP hD hS => ?_)
    subst h_15
    have hP : va_P g.1 vwCl [(oX8 s0 h0 a0 b0 e0), (oX4 h0 q0 q1 (nI k)), (aI g q0 24 f), (oX10 x0 y0 ta z0 p0 dr pa to_ s0 im ki tr v0 rf), (oX6 p0 p1 p2 p3 p4 (nI w)), (oX0 a0 a1), (aI g a1 3600 ln)] H := hP
    have hD : va_D A [(oX8 s0 h0 a0 b0 e0), (oX4 h0 q0 q1 (nI k)), (aI g q0 24 f), (oX10 x0 y0 ta z0 p0 dr pa to_ s0 im ki tr v0 rf), (oX6 p0 p1 p2 p3 p4 (nI w)), (oX0 a0 a1), (aI g a1 3600 ln)] := hD
    refine lv_goto (tgt := 46) hx hb dX10_corks_42 (by decide) ?_
    have hP := hP.sub (ws' := [(oX10 x0 y0 ta z0 p0 dr pa to_ s0 im ki tr v0 rf), (oX6 p0 p1 p2 p3 p4 (nI w)), (oX8 s0 h0 a0 b0 e0), (oX4 h0 q0 q1 (nI k)), (aI g q0 24 f), (oX0 a0 a1), (aI g a1 3600 ln)]) [3, 4, 0, 1, 2, 5, 6] rfl
    have hD := hD.sub (ws' := [(oX10 x0 y0 ta z0 p0 dr pa to_ s0 im ki tr v0 rf), (oX6 p0 p1 p2 p3 p4 (nI w)), (oX8 s0 h0 a0 b0 e0), (oX4 h0 q0 q1 (nI k)), (aI g q0 24 f), (oX0 a0 a1), (aI g a1 3600 ln)]) [3, 4, 0, 1, 2, 5, 6] (by decide) rfl
    exact he_ri hQ hx hb hr hlk hP hD hS dX10_corks_46 (Nat.le_of_ble_eq_true rfl) (Nat.le_of_ble_eq_true rfl) (()) (rfl) ((by rw [if_pos (by omega)]))
set_option maxHeartbeats 4000000 in
set_option maxRecDepth 100000 in
theorem s_X10_nearest (l : Launch) (g : he_G) (x0 : Nat) (y0 : Nat) (z0 : Nat) (dr : Nat) (pa : Nat) (s0 : Nat) (im : Nat) (tr : Nat) (v0 : Nat) (rf : Nat) (ta : Int32) (to_ : Int32) (ki : Int32) (p0 : Nat) (p1 : Nat) (p2 : Nat) (p3 : Nat) (p4 : Nat) (w : Int32) (sd : Nat → Int32) (x : Int32) (y : Int32) (hok0 : ¬ he_within x 0 9999 = 0) (hok1 : ¬ he_within y 0 99 = 0) : he_I l yX10_nearest wsX10_nearest 1 22 0 0 g [.ref x0, .int x, .int y] [(oX10 x0 y0 ta z0 p0 dr pa to_ s0 im ki tr v0 rf), (oX6 p0 p1 p2 p3 p4 w), (aI g p1 24 sd)] (fun (r : Int32) (u : Unit) => r = neC sd x y 10 0) (fun (u : Unit) => [(oX10 x0 y0 ta z0 p0 dr pa to_ s0 im ki tr v0 rf), (oX6 p0 p1 p2 p3 p4 w), (aI g p1 24 sd)]) := by
  refine he_begin (l := l) (g := g) (y := yX10_nearest) (wl := wsX10_nearest) (fr := 1) (lo := 22) (mc := 0) (ms := 0) (av := [.ref x0, .int x, .int y]) (ws := [(oX10 x0 y0 ta z0 p0 dr pa to_ s0 im ki tr v0 rf), (oX6 p0 p1 p2 p3 p4 w), (aI g p1 24 sd)]) (cc := cX10_nearest) (maxL := 4) (ret := (some .int)) (fun A => va_Qi (fun (r : Int32) (u : Unit) => r = neC sd x y 10 0) (fun u t => he_post g A ((fun (u : Unit) => [(oX10 x0 y0 ta z0 p0 dr pa to_ s0 im ki tr v0 rf), (oX6 p0 p1 p2 p3 p4 w), (aI g p1 24 sd)]) u) t) A) (by decide) rfl (Nat.le_of_ble_eq_true rfl) ?_
  intro p e s m args below meth c A ls H locs Q hQ hB
  obtain ⟨hx, hb, hr, hml, hown, hts, hlk, hin, hP, hK, hD, hS, hA, hE, hl⟩ := hB
  have hl : lv_has ls 4 [(0, .ref x0), (1, .int x), (2, .int y)] := hl
  have f23 := hts (.fieldLink RX10 23 "HiredEnemy" "plan" "LHiredEnemy$Plan;") (iwoX10_nearest (k := 0) rfl)
  have inX10 : ∀ w ∈ wsX100, w ∈ wsX10_nearest := innX10_nearest_X10
  refine lv_aload_n hx hb dX10_nearest_0 rfl (lv_at hl 0 rfl) ?_
  refine lv_iload_n hx hb dX10_nearest_1 rfl (lv_at hl 1 rfl) ?_
  refine lv_iconst (v := 0) hx hb dX10_nearest_2 (by decide) ?_
  refine lv_sipush (v := 9999) hx hb dX10_nearest_3 (by decide) ?_
  refine he_ci (wc := []) (wr := [(oX10 x0 y0 ta z0 p0 dr pa to_ s0 im ki tr v0 rf), (oX6 p0 p1 p2 p3 p4 w), (aI g p1 24 sd)]) (va_runS (As := [.int x, .int 0, .int 9999]) (rest := [.ref x0]) ⟨hx, hb, hml, hown, hts⟩ (c_X10_within l g x 0 9999 H.size) (va_cwS 3 hts gX10_nearest_X10_within rfl rfl rfl (by decide +kernel) ⟨Nat.le_of_ble_eq_true rfl, Nat.le_of_ble_eq_true rfl⟩) (he_preS (wc := []) hK hP hD hS hA hE [] rfl rfl) rfl rfl hl.1 rfl (lv_room (Nat.le_of_ble_eq_true rfl)) dX10_nearest_6 ⟨(Nat.le_of_ble_eq_true rfl), (Nat.le_of_ble_eq_true rfl)⟩) hP hD hS hA [] [0, 1, 2] rfl rfl rfl (by decide) (fun r_1 u_2 H locs h_3 hP hD hS => ?_)
  subst h_3
  have hP : va_P g.1 vwCl [(oX10 x0 y0 ta z0 p0 dr pa to_ s0 im ki tr v0 rf), (oX6 p0 p1 p2 p3 p4 w), (aI g p1 24 sd)] H := hP
  have hD : va_D A [(oX10 x0 y0 ta z0 p0 dr pa to_ s0 im ki tr v0 rf), (oX6 p0 p1 p2 p3 p4 w), (aI g p1 24 sd)] := hD
  refine he_top (1) (he_within_1 hok0) ?_
  refine lv_if_eq (tgt := 26) hx hb dX10_nearest_9 (by decide) (fun c_4 => ?_) (fun c_4 => ?_)
  · exact absurd c_4 (by decide)
  · refine lv_iload_n hx hb dX10_nearest_12 rfl (lv_at hl 2 rfl) ?_
    refine lv_iconst (v := 0) hx hb dX10_nearest_13 (by decide) ?_
    refine lv_bipush (v := 99) hx hb dX10_nearest_14 (by decide) ?_
    refine he_ci (wc := []) (wr := [(oX10 x0 y0 ta z0 p0 dr pa to_ s0 im ki tr v0 rf), (oX6 p0 p1 p2 p3 p4 w), (aI g p1 24 sd)]) (va_runS (As := [.int y, .int 0, .int 99]) (rest := [.ref x0]) ⟨hx, hb, hml, hown, hts⟩ (c_X10_within l g y 0 99 H.size) (va_cwS 3 hts gX10_nearest_X10_within rfl rfl rfl (by decide +kernel) ⟨Nat.le_of_ble_eq_true rfl, Nat.le_of_ble_eq_true rfl⟩) (he_preS (wc := []) hK hP hD hS hA hE [] rfl rfl) rfl rfl hl.1 rfl (lv_room (Nat.le_of_ble_eq_true rfl)) dX10_nearest_16 ⟨(Nat.le_of_ble_eq_true rfl), (Nat.le_of_ble_eq_true rfl)⟩) hP hD hS hA [] [0, 1, 2] rfl rfl rfl (by decide) (fun r_5 u_6 H locs h_7 hP hD hS => ?_)
    subst h_7
    have hP : va_P g.1 vwCl [(oX10 x0 y0 ta z0 p0 dr pa to_ s0 im ki tr v0 rf), (oX6 p0 p1 p2 p3 p4 w), (aI g p1 24 sd)] H := hP
    have hD : va_D A [(oX10 x0 y0 ta z0 p0 dr pa to_ s0 im ki tr v0 rf), (oX6 p0 p1 p2 p3 p4 w), (aI g p1 24 sd)] := hD
    refine he_top (1) (he_within_1 hok1) ?_
    refine lv_if_eq (tgt := 26) hx hb dX10_nearest_19 (by decide) (fun c_8 => ?_) (fun c_8 => ?_)
    · exact absurd c_8 (by decide)
    · refine lv_iconst (v := 1) hx hb dX10_nearest_22 (by decide) ?_
      refine lv_goto (tgt := 27) hx hb dX10_nearest_23 (by decide) ?_
      refine he_cv (wc := []) (wr := [(oX10 x0 y0 ta z0 p0 dr pa to_ s0 im ki tr v0 rf), (oX6 p0 p1 p2 p3 p4 w), (aI g p1 24 sd)]) (va_runV (As := [.int 1]) (rest := []) ⟨hx, hb, hml, hown, hts⟩ (c_X10_demand1 l g x0 H.size) (cwV 1 hts gX10_nearest_X10_demand rfl rfl rfl (by decide +kernel) ⟨Nat.le_of_ble_eq_true rfl, Nat.le_of_ble_eq_true rfl⟩) (he_preV (wc := []) hK hP hD hS hA hE [] rfl rfl 0 rfl rfl) rfl rfl hl.1 rfl (lv_room (Nat.le_of_ble_eq_true rfl)) dX10_nearest_27 ⟨(Nat.le_of_ble_eq_true rfl), (Nat.le_of_ble_eq_true rfl)⟩) hP hD hS hA [] [0, 1, 2] rfl rfl rfl (by decide) (fun u_10 H locs h_11 hP hD hS => ?_)
      have hP : va_P g.1 vwCl [(oX10 x0 y0 ta z0 p0 dr pa to_ s0 im ki tr v0 rf), (oX6 p0 p1 p2 p3 p4 w), (aI g p1 24 sd)] H := hP
      have hD : va_D A [(oX10 x0 y0 ta z0 p0 dr pa to_ s0 im ki tr v0 rf), (oX6 p0 p1 p2 p3 p4 w), (aI g p1 24 sd)] := hD
      refine lv_iconst (v := 0) hx hb dX10_nearest_30 (by decide) ?_
      refine lv_istore_n (lv' := [(3, .int 0), (0, .ref x0), (1, .int x), (2, .int y)]) hx hb dX10_nearest_31 rfl hl (by decide) rfl (fun ls hl => ?_)
      have loop32 : ∀ (n9 : Nat) (j : Nat), 10 - j < n9 → (j ≤ 10) → (∀ f9, f9 + j = 10 → neC sd x y 10 0 = neC sd x y f9 j) → ∀ (H : Heap) (locs : List Loc) (ls : Array Slot), va_P g.1 vwCl [(oX10 x0 y0 ta z0 p0 dr pa to_ s0 im ki tr v0 rf), (oX6 p0 p1 p2 p3 p4 w), (aI g p1 24 sd)] H → va_D A [(oX10 x0 y0 ta z0 p0 dr pa to_ s0 im ki tr v0 rf), (oX6 p0 p1 p2 p3 p4 w), (aI g p1 24 sd)] → va_S A s.heap H locs → lv_has ls 4 [(0, .ref x0), (1, .int x), (2, .int y), (3, .int (nI j))] → W p l e (he_room 1 22 0 0) s m args below meth c H locs 0 0 Q (F0 m 32 ls []) := by
        intro n9
        induction n9 with
        | zero => intro j hm9; exact absurd hm9 (Nat.not_lt_zero _)
        | succ n9 ih32 =>
          intro j hm9 hj hnx H locs ls hP hD hS hl
          refine lv_iload_n hx hb dX10_nearest_32 rfl (lv_at hl 3 rfl) ?_
          refine lv_bipush (v := 9) hx hb dX10_nearest_33 (by decide) ?_
          refine lv_icmp_gt (tgt := 59) hx hb dX10_nearest_35 (by decide) (fun c_12 => ?_) (fun c_12 => ?_)
          · have k_13 : 9 < j := (he_clt (a := 9) (b := j) (by decide) rfl (by omega) (by omega)).mp c_12
            refine lv_iconst (v := (-1)) hx hb dX10_nearest_59 (by decide) ?_
            exact he_ri hQ hx hb hr hlk hP hD hS dX10_nearest_60 (Nat.le_of_ble_eq_true rfl) (Nat.le_of_ble_eq_true rfl) (()) (rfl) ((by rw [hnx 0 (by omega)]; rfl))
          · have k_14 : ¬ (9 < j) := fun h9 => c_12 ((he_clt (a := 9) (b := j) (by decide) rfl (by omega) (by omega)).mpr h9)
            refine lv_aload_n hx hb dX10_nearest_38 rfl (lv_at hl 0 rfl) ?_
            refine va_get (v := .ref p0) (T := TX10) (N := 13) hx hb hts inX10 hown hK hP 0 rfl rfl 3 (by decide) f23 (fun _ h9 => h9) rfl dX10_nearest_39 ?_
            refine lv_iload_n hx hb dX10_nearest_42 rfl (lv_at hl 3 rfl) ?_
            refine lv_iload_n hx hb dX10_nearest_43 rfl (lv_at hl 2 rfl) ?_
            refine he_ci (wc := [(oX6 p0 p1 p2 p3 p4 w), (aI g p1 24 sd)]) (wr := [(oX10 x0 y0 ta z0 p0 dr pa to_ s0 im ki tr v0 rf)]) (va_runV (As := [.int (nI j), .int y]) (rest := []) ⟨hx, hb, hml, hown, hts⟩ (c_X6_wanted l g p0 p1 p2 p3 p4 w sd (nI j) y H.size) (cwV 2 hts gX10_nearest_X6_wanted rfl rfl rfl (by decide +kernel) ⟨Nat.le_of_ble_eq_true rfl, Nat.le_of_ble_eq_true rfl⟩) (he_preV (wc := [(oX6 p0 p1 p2 p3 p4 w), (aI g p1 24 sd)]) hK hP hD hS hA hE [1, 2] rfl rfl 1 rfl rfl) rfl rfl hl.1 rfl (lv_room (Nat.le_of_ble_eq_true rfl)) dX10_nearest_44 ⟨(Nat.le_of_ble_eq_true rfl), (Nat.le_of_ble_eq_true rfl)⟩) hP hD hS hA [1, 2] [0] rfl rfl rfl (by decide) (fun r_15 u_16 H locs h_17 hP hD hS => ?_)
            subst h_17
            have hP : va_P g.1 vwCl [(oX10 x0 y0 ta z0 p0 dr pa to_ s0 im ki tr v0 rf), (oX6 p0 p1 p2 p3 p4 w), (aI g p1 24 sd)] H := hP
            have hD : va_D A [(oX10 x0 y0 ta z0 p0 dr pa to_ s0 im ki tr v0 rf), (oX6 p0 p1 p2 p3 p4 w), (aI g p1 24 sd)] := hD
            refine lv_iload_n hx hb dX10_nearest_47 rfl (lv_at hl 1 rfl) ?_
            refine lv_icmp_gt (tgt := 53) hx hb dX10_nearest_48 (by decide) (fun c_18 => ?_) (fun c_18 => ?_)
            · refine lv_iinc (v := nI (j + 1)) (lv' := [(3, .int (nI (j + 1))), (0, .ref x0), (1, .int x), (2, .int y)]) hx hb dX10_nearest_53 hl (k := 3) rfl (nI_1 j) (by decide) rfl (fun ls hl => ?_)
              refine lv_goto (tgt := 32) hx hb dX10_nearest_56 (by decide) ?_
              exact ih32 (j + 1) (by omega) (by omega) (fun f9 h9 => by rw [hnx (f9 + 1) (by omega), neC, if_neg (Int32.not_le.mpr c_18)]) _ _ _ hP hD hS (lv_sub hl [1, 2, 3, 0] rfl)
            · refine lv_iload_n hx hb dX10_nearest_51 rfl (lv_at hl 3 rfl) ?_
              exact he_ri hQ hx hb hr hlk hP hD hS dX10_nearest_52 (Nat.le_of_ble_eq_true rfl) (Nat.le_of_ble_eq_true rfl) (()) (rfl) ((by rw [hnx (9 - j + 1) (by omega), neC, if_pos (Int32.not_lt.mp c_18)]))
      exact loop32 ((10 - 0) + 1) 0 (Nat.lt_succ_self _) (Nat.zero_le _) (fun f9 h9 => by rw [show f9 = 10 by omega]) _ _ _ hP hD hS (lv_sub hl [1, 2, 3, 0] rfl)
