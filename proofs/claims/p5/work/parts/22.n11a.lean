/-- a count as a long -/
def jL (a : Nat) : Int64 := Int64.ofNat a
theorem jL_int {a : Nat} (h : a < 2 ^ 63) : (jL a).toInt = (a : Int) := Int64.toInt_ofNat_of_lt h
theorem jL_i {a : Nat} (h : a < 2147483648) : Int32.toInt64 (nI a) = jL a := by
  apply Int64.toInt_inj.mp
  rw [Int32.toInt_toInt64, jL_int (by omega)]
  exact Int32.toInt_ofNat_of_lt h
theorem jL_z {a : Nat} (h : a < 2 ^ 63) (e : jL a = 0) : a = 0 := by
  have h1 := jL_int h
  rw [e] at h1
  have h2 : (0 : Int64).toInt = 0 := by decide
  omega
theorem jL_c {a : Nat} (h : a < 2 ^ 63) (e : lg_cmp (jL a) 0 = 0) : a = 0 := by
  apply jL_z h
  unfold lg_cmp at e
  split at e
  · exact absurd e (by decide)
  · split at e
    · assumption
    · exact absurd e (by decide)
theorem jL_mul (a b : Nat) : jL a * jL b = jL (a * b) := (Int64.ofNat_mul a b).symm
theorem jL_rem {a b : Nat} (ha : a < 2 ^ 63) (hb : b < 2 ^ 63) : jL a - jL a / jL b * jL b = jL (a % b) := by
  unfold jL
  rw [← Int64.ofNat_div ha hb, ← Int64.ofNat_mul, ← Int64.ofNat_sub _ _ (Nat.div_mul_le_self a b)]
  congr 1
  have := Nat.div_add_mod a b
  rw [Nat.mul_comm] at this
  omega
theorem bl_s {A a k : Nat} (h : A ≤ 99 * 16 ^ k) (ha : a ≤ 16) : A * a ≤ 99 * 16 ^ (k + 1) := by
  rw [Nat.pow_succ, ← Nat.mul_assoc]
  exact Nat.mul_le_mul h ha
theorem bl_lt {A k : Nat} (h : A ≤ 99 * 16 ^ k) (hk : k ≤ 12) : A < 2 ^ 63 := by
  have h1 : 16 ^ k ≤ 16 ^ 12 := Nat.pow_le_pow_right (by decide) hk
  have h2 : 99 * 16 ^ k ≤ 99 * 16 ^ 12 := Nat.mul_le_mul_left 99 h1
  have h3 : 99 * 16 ^ 12 < 2 ^ 63 := by decide
  omega
set_option maxHeartbeats 4000000 in
set_option maxRecDepth 100000 in
theorem h_X11_believed0 (l : Launch) (g : he_G) (m0 : Nat) (fd : Nat) (rfm : Nat) (rt_ : Nat) (to_ : Nat) (rw_ : Nat) (wa : Nat) (rk : Nat) (rb : Nat) (cn : Nat) (br : Nat) (sm : Nat) (as_ : Nat) (go : Nat) (sh_ : Nat) (ki : Nat) (tg : Nat) (of_ : Nat) (kp : Nat) (rs : Nat) (ta : Int32) (sz_ : Int32) (pl : Int32) (at_ : Int32) (fa : Int32) (fw : Int32) (cs : Int32) (ct : Int32) (ir : Int32) (ig : Int32) (sp_ : Int32) (sf : Int32) (tw : Int32) (oa : Nat) (ob : Nat) (th : Nat) (L : List Nat) (ln : Nat → Nat) (M : Nat → Nat → Int32) (r8 : Nat → Nat) (F_r8 : ∀ i, i < 12 → r8 i ∈ L ∧ ln (r8 i) = 2 ∧ True) (hth : th ≤ 12) (htk : tOk r8 M th) (hoa1 : 1 ≤ oa) (hoa2 : oa ≤ 99) (hob1 : 1 ≤ ob) (hob2 : ob ≤ 99) : he_J l yX11_believed wsX11_believed 1 23 0 0 g [.ref m0, .int 0] ([(oX11 m0 tw ta sz_ pl at_ fa fw cs fd rfm rt_ to_ rw_ wa ct rk rb cn br sm as_ go sh_ ir (nI oa) (nI ob) (nI th) ig sp_ ki tg of_ kp sf rs), (aM g tg 12 (he_ro 12 r8))] ++ he_pl g L ln M) (fun (r : Int64) (u : Unit) => True) (fun (u : Unit) => [(oX11 m0 0 ta sz_ pl at_ fa fw cs fd rfm rt_ to_ rw_ wa ct rk rb cn br sm as_ go sh_ ir (nI oa) (nI ob) (nI th) ig sp_ ki tg of_ kp sf rs), (aM g tg 12 (he_ro 12 r8))] ++ he_pl g L ln M) := by
  refine he_begin (l := l) (g := g) (y := yX11_believed) (wl := wsX11_believed) (fr := 1) (lo := 23) (mc := 0) (ms := 0) (av := [.ref m0, .int 0]) (ws := ([(oX11 m0 tw ta sz_ pl at_ fa fw cs fd rfm rt_ to_ rw_ wa ct rk rb cn br sm as_ go sh_ ir (nI oa) (nI ob) (nI th) ig sp_ ki tg of_ kp sf rs), (aM g tg 12 (he_ro 12 r8))] ++ he_pl g L ln M)) (cc := cX11_believed) (maxL := 12) (ret := (some .long)) (fun A => va_Ql (fun (r : Int64) (u : Unit) => True) (fun u t => he_post g A ((fun (u : Unit) => [(oX11 m0 0 ta sz_ pl at_ fa fw cs fd rfm rt_ to_ rw_ wa ct rk rb cn br sm as_ go sh_ ir (nI oa) (nI ob) (nI th) ig sp_ ki tg of_ kp sf rs), (aM g tg 12 (he_ro 12 r8))] ++ he_pl g L ln M) u) t) A) (by decide) rfl (Nat.le_of_ble_eq_true rfl) ?_
  intro p e s m args below meth c A ls H locs Q hQ hB
  obtain ⟨hx, hb, hr, hml, hown, hts, hlk, hin, hP, hK, hD, hS, hA, hE, hl⟩ := hB
  have hl : lv_has ls 12 [(0, .ref m0), (1, .int 0)] := hl
  have f85 := hts (.fieldLink RX11 85 "HiredEnemyModel" "thrown" "I") (iwoX11_believed (k := 0) rfl)
  have inX11 : ∀ w ∈ wsX110, w ∈ wsX11_believed := innX11_believed_X11
  have f58 := hts (.fieldLink RX11 58 "HiredEnemyModel" "oddsA" "I") (iwoX11_believed (k := 1) rfl)
  have f61 := hts (.fieldLink RX11 61 "HiredEnemyModel" "oddsB" "I") (iwoX11_believed (k := 2) rfl)
  have f165 := hts (.fieldLink RX11 165 "HiredEnemyModel" "things" "I") (iwoX11_believed (k := 3) rfl)
  have f67 := hts (.fieldLink RX11 67 "HiredEnemyModel" "thing" "[[I") (iwoX11_believed (k := 4) rfl)
  refine lv_aload_n hx hb dX11_believed_0 rfl (lv_at hl 0 rfl) ?_
  refine lv_iconst (v := 0) hx hb dX11_believed_1 (by decide) ?_
  refine va_put (v := .int 0) (ty := .int) (T := TX11) (N := 35) hx hb hts inX11 tyX11 tyX11_ok nmX11 hown hK hP hD hS 0 rfl rfl 0 (by decide) f85 (fun _ h9 => h9) rfl (by decide +kernel) rfl rfl (Nat.le_of_ble_eq_true rfl) dX11_believed_2 (fun H locs hP hD hS => ?_)
  have hP : va_P g.1 vwCl ([(oX11 m0 0 ta sz_ pl at_ fa fw cs fd rfm rt_ to_ rw_ wa ct rk rb cn br sm as_ go sh_ ir (nI oa) (nI ob) (nI th) ig sp_ ki tg of_ kp sf rs), (aM g tg 12 (he_ro 12 r8))] ++ he_pl g L ln M) H := hP
  have hD : va_D A ([(oX11 m0 0 ta sz_ pl at_ fa fw cs fd rfm rt_ to_ rw_ wa ct rk rb cn br sm as_ go sh_ ir (nI oa) (nI ob) (nI th) ig sp_ ki tg of_ kp sf rs), (aM g tg 12 (he_ro 12 r8))] ++ he_pl g L ln M) := hD
  refine lv_aload_n hx hb dX11_believed_5 rfl (lv_at hl 0 rfl) ?_
  refine lv_iload_n hx hb dX11_believed_6 rfl (lv_at hl 1 rfl) ?_
  refine lv_iconst (v := 0) hx hb dX11_believed_7 (by decide) ?_
  refine lv_iconst (v := 1) hx hb dX11_believed_8 (by decide) ?_
  refine he_ci (wc := []) (wr := ([(oX11 m0 0 ta sz_ pl at_ fa fw cs fd rfm rt_ to_ rw_ wa ct rk rb cn br sm as_ go sh_ ir (nI oa) (nI ob) (nI th) ig sp_ ki tg of_ kp sf rs), (aM g tg 12 (he_ro 12 r8))] ++ (he_pl g L ln M))) (va_runS (As := [.int 0, .int 0, .int 1]) (rest := [.ref m0]) ⟨hx, hb, hml, hown, hts⟩ (c_X11_in l g 0 0 1 H.size) (va_cwS 3 hts gX11_believed_X11_in rfl rfl rfl (by decide +kernel) ⟨Nat.le_of_ble_eq_true rfl, Nat.le_of_ble_eq_true rfl⟩) (he_preS (wc := []) hK hP hD hS hA hE [] rfl rfl) rfl rfl hl.1 rfl (lv_room (Nat.le_of_ble_eq_true rfl)) dX11_believed_9 ⟨(Nat.le_of_ble_eq_true rfl), (Nat.le_of_ble_eq_true rfl)⟩) hP hD hS hA [] (he_is [0, 1] [(oX11 m0 0 ta sz_ pl at_ fa fw cs fd rfm rt_ to_ rw_ wa ct rk rb cn br sm as_ go sh_ ir (nI oa) (nI ob) (nI th) ig sp_ ki tg of_ kp sf rs), (aM g tg 12 (he_ro 12 r8))] (he_pl g L ln M)) rfl (he_ixP rfl) (he_ndP rfl rfl) (he_disN (by decide) rfl) (fun r_1 u_2 H locs h_3 hP hD hS => ?_)
  have hP := va_P.swap hP
  have hD := va_D.swap hD
  subst h_3
  have hP : va_P g.1 vwCl ([(oX11 m0 0 ta sz_ pl at_ fa fw cs fd rfm rt_ to_ rw_ wa ct rk rb cn br sm as_ go sh_ ir (nI oa) (nI ob) (nI th) ig sp_ ki tg of_ kp sf rs), (aM g tg 12 (he_ro 12 r8))] ++ he_pl g L ln M) H := hP
  have hD : va_D A ([(oX11 m0 0 ta sz_ pl at_ fa fw cs fd rfm rt_ to_ rw_ wa ct rk rb cn br sm as_ go sh_ ir (nI oa) (nI ob) (nI th) ig sp_ ki tg of_ kp sf rs), (aM g tg 12 (he_ro 12 r8))] ++ he_pl g L ln M) := hD
  refine he_top (1) (by decide) ?_
  refine lv_if_ne (tgt := 19) hx hb dX11_believed_12 (by decide) (fun c_4 => ?_) (fun c_4 => ?_)
  · refine lv_iconst (v := 0) hx hb dX11_believed_19 (by decide) ?_
    refine lv_iconst (v := 1) hx hb dX11_believed_20 (by decide) ?_
    refine lv_iconst (v := 2) hx hb dX11_believed_21 (by decide) ?_
    refine he_ci (wc := [(oX11 m0 0 ta sz_ pl at_ fa fw cs fd rfm rt_ to_ rw_ wa ct rk rb cn br sm as_ go sh_ ir (nI oa) (nI ob) (nI th) ig sp_ ki tg of_ kp sf rs)]) (wr := ([(aM g tg 12 (he_ro 12 r8))] ++ (he_pl g L ln M))) (va_runV (As := [.int 0, .int 1, .int 2]) (rest := []) ⟨hx, hb, hml, hown, hts⟩ (c_X11_bad0 l g m0 fd rfm rt_ to_ rw_ wa rk rb cn br sm as_ go sh_ ki tg of_ kp rs ta sz_ pl at_ fa fw cs ct ir (nI oa) (nI ob) (nI th) ig sp_ sf 1 2 H.size) (cwV 3 hts gX11_believed_X11_bad rfl rfl rfl (by decide +kernel) ⟨Nat.le_of_ble_eq_true rfl, Nat.le_of_ble_eq_true rfl⟩) (he_preV (wc := [(oX11 m0 0 ta sz_ pl at_ fa fw cs fd rfm rt_ to_ rw_ wa ct rk rb cn br sm as_ go sh_ ir (nI oa) (nI ob) (nI th) ig sp_ ki tg of_ kp sf rs)]) hK hP hD hS hA hE [0] rfl rfl 0 rfl rfl) rfl rfl hl.1 rfl (lv_room (Nat.le_of_ble_eq_true rfl)) dX11_believed_22 ⟨(Nat.le_of_ble_eq_true rfl), (Nat.le_of_ble_eq_true rfl)⟩) hP hD hS hA [0] (he_is [1] [(oX11 m0 0 ta sz_ pl at_ fa fw cs fd rfm rt_ to_ rw_ wa ct rk rb cn br sm as_ go sh_ ir (nI oa) (nI ob) (nI th) ig sp_ ki tg of_ kp sf rs), (aM g tg 12 (he_ro 12 r8))] (he_pl g L ln M)) rfl (he_ixP rfl) (he_ndP rfl rfl) (he_disN (by decide) rfl) (fun r_5 u_6 H locs h_7 hP hD hS => ?_)
    have hP := va_P.swap hP
    have hD := va_D.swap hD
    subst h_7
    have hP : va_P g.1 vwCl ([(aM g tg 12 (he_ro 12 r8)), (oX11 m0 0 ta sz_ pl at_ fa fw cs fd rfm rt_ to_ rw_ wa ct rk rb cn br sm as_ go sh_ ir (nI oa) (nI ob) (nI th) ig sp_ ki tg of_ kp sf rs)] ++ he_pl g L ln M) H := hP
    have hD : va_D A ([(aM g tg 12 (he_ro 12 r8)), (oX11 m0 0 ta sz_ pl at_ fa fw cs fd rfm rt_ to_ rw_ wa ct rk rb cn br sm as_ go sh_ ir (nI oa) (nI ob) (nI th) ig sp_ ki tg of_ kp sf rs)] ++ he_pl g L ln M) := hD
    refine lv_if_eq (tgt := 30) hx hb dX11_believed_25 (by decide) (fun c_8 => ?_) (fun c_8 => ?_)
    · refine lv_aload_n hx hb dX11_believed_30 rfl (lv_at hl 0 rfl) ?_
      refine va_get (v := .int (nI oa)) (T := TX11) (N := 35) hx hb hts inX11 hown hK hP 1 rfl rfl 24 (by decide) f58 (fun _ h9 => h9) rfl dX11_believed_31 ?_
      refine lv_i2l (v := Int32.toInt64 (nI oa)) hx hb dX11_believed_34 rfl ?_
      refine he_topl (jL oa) (jL_i (by omega)) ?_
      refine lv_lstore_n (lv' := [(2, .long (jL oa)), (0, .ref m0), (1, .int 0)]) hx hb dX11_believed_35 rfl hl (by decide) rfl (fun ls hl => ?_)
      refine lv_aload_n hx hb dX11_believed_36 rfl (lv_at hl 1 rfl) ?_
      refine va_get (v := .int (nI ob)) (T := TX11) (N := 35) hx hb hts inX11 hown hK hP 1 rfl rfl 25 (by decide) f61 (fun _ h9 => h9) rfl dX11_believed_37 ?_
      refine lv_i2l (v := Int32.toInt64 (nI ob)) hx hb dX11_believed_40 rfl ?_
      refine he_topl (jL ob) (jL_i (by omega)) ?_
      refine lv_lstore (lv' := [(4, .long (jL ob)), (2, .long (jL oa)), (0, .ref m0), (1, .int 0)]) hx hb dX11_believed_41 hl (by decide) rfl (fun ls hl => ?_)
      refine lv_iconst (v := 0) hx hb dX11_believed_43 (by decide) ?_
      refine lv_istore (lv' := [(6, .int 0), (4, .long (jL ob)), (2, .long (jL oa)), (0, .ref m0), (1, .int 0)]) hx hb dX11_believed_44 hl (by decide) rfl (fun ls hl => ?_)
      have loop46 : ∀ (n9 : Nat) (kk : Nat) (Aa : Nat) (Bb : Nat), th - kk < n9 → (kk ≤ th) → (1 ≤ Aa) → (Aa ≤ 99 * 16 ^ kk) → (1 ≤ Bb) → (Bb ≤ 99 * 16 ^ kk) → ∀ (H : Heap) (locs : List Loc) (ls : Array Slot), va_P g.1 vwCl ([(oX11 m0 0 ta sz_ pl at_ fa fw cs fd rfm rt_ to_ rw_ wa ct rk rb cn br sm as_ go sh_ ir (nI oa) (nI ob) (nI th) ig sp_ ki tg of_ kp sf rs), (aM g tg 12 (he_ro 12 r8))] ++ he_pl g L ln M) H → va_D A ([(oX11 m0 0 ta sz_ pl at_ fa fw cs fd rfm rt_ to_ rw_ wa ct rk rb cn br sm as_ go sh_ ir (nI oa) (nI ob) (nI th) ig sp_ ki tg of_ kp sf rs), (aM g tg 12 (he_ro 12 r8))] ++ he_pl g L ln M) → va_S A s.heap H locs → lv_has ls 12 [(0, .ref m0), (1, .int 0), (2, .long (jL Aa)), (4, .long (jL Bb)), (6, .int (nI kk))] → W p l e (he_room 1 23 0 0) s m args below meth c H locs 0 0 Q (F0 m 46 ls []) := by
        intro n9
        induction n9 with
        | zero => intro kk Aa Bb hm9; exact absurd hm9 (Nat.not_lt_zero _)
        | succ n9 ih46 =>
          intro kk Aa Bb hm9 hkk hA1 hA2 hB1 hB2 H locs ls hP hD hS hl
          refine lv_iload hx hb dX11_believed_46 (lv_at hl 4 rfl) ?_
          refine lv_aload_n hx hb dX11_believed_48 rfl (lv_at hl 0 rfl) ?_
          refine va_get (v := .int (nI th)) (T := TX11) (N := 35) hx hb hts inX11 hown hK hP 0 rfl rfl 26 (by decide) f165 (fun _ h9 => h9) rfl dX11_believed_49 ?_
          refine lv_icmp_ge (tgt := 89) hx hb dX11_believed_52 (by decide) (fun c_9 => ?_) (fun c_9 => ?_)
          · have k_10 : th ≤ kk := (he_cle (a := th) (b := kk) rfl rfl (by omega) (by omega)).mp c_9
            refine lv_lload_n hx hb dX11_believed_89 rfl (lv_at hl 2 rfl) ?_
            refine lv_lstore (lv' := [(6, .long (jL Aa)), (0, .ref m0), (1, .int 0), (2, .long (jL Aa)), (4, .long (jL Bb))]) hx hb dX11_believed_90 hl (by decide) rfl (fun ls hl => ?_)
            refine lv_lload hx hb dX11_believed_92 (lv_at hl 4 rfl) ?_
            refine lv_lstore (lv' := [(8, .long (jL Bb)), (6, .long (jL Aa)), (0, .ref m0), (1, .int 0), (2, .long (jL Aa)), (4, .long (jL Bb))]) hx hb dX11_believed_94 hl (by decide) rfl (fun ls hl => ?_)
            have loop96 : ∀ (n9 : Nat) (ea : Nat) (eb : Nat), eb < n9 → (ea < 2 ^ 63) → (eb < 2 ^ 63) → (0 < ea + eb) → ∀ (H : Heap) (locs : List Loc) (ls : Array Slot), va_P g.1 vwCl ([(oX11 m0 0 ta sz_ pl at_ fa fw cs fd rfm rt_ to_ rw_ wa ct rk rb cn br sm as_ go sh_ ir (nI oa) (nI ob) (nI th) ig sp_ ki tg of_ kp sf rs), (aM g tg 12 (he_ro 12 r8))] ++ he_pl g L ln M) H → va_D A ([(oX11 m0 0 ta sz_ pl at_ fa fw cs fd rfm rt_ to_ rw_ wa ct rk rb cn br sm as_ go sh_ ir (nI oa) (nI ob) (nI th) ig sp_ ki tg of_ kp sf rs), (aM g tg 12 (he_ro 12 r8))] ++ he_pl g L ln M) → va_S A s.heap H locs → lv_has ls 12 [(0, .ref m0), (1, .int 0), (2, .long (jL Aa)), (4, .long (jL Bb)), (6, .long (jL ea)), (8, .long (jL eb))] → W p l e (he_room 1 23 0 0) s m args below meth c H locs 0 0 Q (F0 m 96 ls []) := by
              intro n9
              induction n9 with
              | zero => intro ea eb hm9; exact absurd hm9 (Nat.not_lt_zero _)
              | succ n9 ih96 =>
                intro ea eb hm9 heal hebl he H locs ls hP hD hS hl
                refine lv_lload hx hb dX11_believed_96 (lv_at hl 5 rfl) ?_
                refine lv_lconst (v := 0) hx hb dX11_believed_98 (by decide) ?_
                refine W.lcmp hx hb dX11_believed_99 ?_
                refine lv_if_eq (tgt := 121) hx hb dX11_believed_100 (by decide) (fun c_11 => ?_) (fun c_11 => ?_)
                · have he0 : eb = 0 := jL_c hebl c_11
                  refine lv_iload_n hx hb dX11_believed_121 rfl (lv_at hl 1 rfl) ?_
                  refine lv_if_ne (tgt := 132) hx hb dX11_believed_122 (by decide) (fun c_12 => ?_) (fun c_12 => ?_)
                  · exact absurd (by decide) c_12
                  · refine lv_lload_n hx hb dX11_believed_125 rfl (lv_at hl 2 rfl) ?_
                    refine lv_lload hx hb dX11_believed_126 (lv_at hl 4 rfl) ?_
                    refine lv_ldiv hx hb dX11_believed_128 (fun h9 => absurd (jL_z heal h9) (by omega)) ?_
                    refine lv_goto (tgt := 137) hx hb dX11_believed_129 (by decide) ?_
                    exact he_rj hQ hx hb hr hlk hP hD hS dX11_believed_137 (Nat.le_of_ble_eq_true rfl) (Nat.le_of_ble_eq_true rfl) (()) (rfl) (trivial)
                · have he1 : ¬ eb = 0 := fun h9 => c_11 (by rw [h9]; decide)
                  refine lv_lload hx hb dX11_believed_103 (lv_at hl 4 rfl) ?_
                  refine lv_lload hx hb dX11_believed_105 (lv_at hl 5 rfl) ?_
                  refine lv_lrem hx hb dX11_believed_107 (fun h9 => he1 (jL_z hebl h9)) ?_
                  refine he_topl (jL (ea % eb)) (jL_rem heal hebl) ?_
                  refine lv_lstore (lv' := [(10, .long (jL (ea % eb))), (0, .ref m0), (1, .int 0), (2, .long (jL Aa)), (4, .long (jL Bb)), (6, .long (jL ea)), (8, .long (jL eb))]) hx hb dX11_believed_108 hl (by decide) rfl (fun ls hl => ?_)
                  refine lv_lload hx hb dX11_believed_110 (lv_at hl 6 rfl) ?_
                  refine lv_lstore (lv' := [(6, .long (jL eb)), (10, .long (jL (ea % eb))), (0, .ref m0), (1, .int 0), (2, .long (jL Aa)), (4, .long (jL Bb)), (8, .long (jL eb))]) hx hb dX11_believed_112 hl (by decide) rfl (fun ls hl => ?_)
                  refine lv_lload hx hb dX11_believed_114 (lv_at hl 1 rfl) ?_
                  refine lv_lstore (lv' := [(8, .long (jL (ea % eb))), (6, .long (jL eb)), (10, .long (jL (ea % eb))), (0, .ref m0), (1, .int 0), (2, .long (jL Aa)), (4, .long (jL Bb))]) hx hb dX11_believed_116 hl (by decide) rfl (fun ls hl => ?_)
                  refine lv_goto (tgt := 96) hx hb dX11_believed_118 (by decide) ?_
                  exact ih96 eb (ea % eb) (by have := Nat.mod_lt ea (Nat.pos_of_ne_zero he1); omega) hebl (by have := Nat.mod_lt ea (Nat.pos_of_ne_zero he1); omega) (by omega) _ _ _ hP hD hS (lv_sub hl [3, 4, 5, 6, 1, 0] rfl)
            exact loop96 ((Bb) + 1) Aa Bb (Nat.lt_succ_self _) (bl_lt hA2 (by omega)) (bl_lt hB2 (by omega)) (by omega) _ _ _ hP hD hS (lv_sub hl [2, 3, 4, 5, 1, 0] rfl)
          · have k_13 : ¬ (th ≤ kk) := fun h9 => c_9 ((he_cle (a := th) (b := kk) rfl rfl (by omega) (by omega)).mpr h9)
            obtain ⟨⟨a0, ha1, ha2, ha3⟩, b0, hb1, hb2, hb3⟩ := htk kk (by omega)
            refine lv_lload_n hx hb dX11_believed_55 rfl (lv_at hl 2 rfl) ?_
            refine lv_aload_n hx hb dX11_believed_56 rfl (lv_at hl 0 rfl) ?_
            refine va_get (v := .ref tg) (T := TX11) (N := 35) hx hb hts inX11 hown hK hP 0 rfl rfl 30 (by decide) f67 (fun _ h9 => h9) rfl dX11_believed_57 ?_
            refine lv_iload hx hb dX11_believed_60 (lv_at hl 4 rfl) ?_
            refine he_aldm hx hb hK hP 1 rfl (kk) rfl (by first | assumption | decide | omega) (by decide) dX11_believed_62 ?_
            refine lv_iconst (v := 0) hx hb dX11_believed_63 (by decide) ?_
            refine he_pald hx hb hK hP (F_r8 kk (by first | assumption | decide | omega)).1 (0) (by decide) (by rw [(F_r8 kk (by first | assumption | decide | omega)).2.1]; exact (by decide)) (by rw [(F_r8 kk (by first | assumption | decide | omega)).2.1]; decide) (nI a0) ha3 dX11_believed_64 ?_
            refine lv_i2l (v := Int32.toInt64 (nI a0)) hx hb dX11_believed_65 rfl ?_
            refine lv_lmul hx hb dX11_believed_66 ?_
            refine he_topl (jL (Aa * a0)) (by rw [jL_i (by omega)]; exact jL_mul _ _) ?_
            refine lv_lstore_n (lv' := [(2, .long (jL (Aa * a0))), (0, .ref m0), (1, .int 0), (4, .long (jL Bb)), (6, .int (nI kk))]) hx hb dX11_believed_67 rfl hl (by decide) rfl (fun ls hl => ?_)
            refine lv_lload hx hb dX11_believed_68 (lv_at hl 3 rfl) ?_
            refine lv_aload_n hx hb dX11_believed_70 rfl (lv_at hl 1 rfl) ?_
            refine va_get (v := .ref tg) (T := TX11) (N := 35) hx hb hts inX11 hown hK hP 0 rfl rfl 30 (by decide) f67 (fun _ h9 => h9) rfl dX11_believed_71 ?_
            refine lv_iload hx hb dX11_believed_74 (lv_at hl 4 rfl) ?_
            refine he_aldm hx hb hK hP 1 rfl (kk) rfl (by first | assumption | decide | omega) (by decide) dX11_believed_76 ?_
            refine lv_iconst (v := 1) hx hb dX11_believed_77 (by decide) ?_
            refine he_pald hx hb hK hP (F_r8 kk (by first | assumption | decide | omega)).1 (1) (by decide) (by rw [(F_r8 kk (by first | assumption | decide | omega)).2.1]; exact (by decide)) (by rw [(F_r8 kk (by first | assumption | decide | omega)).2.1]; decide) (nI b0) hb3 dX11_believed_78 ?_
            refine lv_i2l (v := Int32.toInt64 (nI b0)) hx hb dX11_believed_79 rfl ?_
            refine lv_lmul hx hb dX11_believed_80 ?_
            refine he_topl (jL (Bb * b0)) (by rw [jL_i (by omega)]; exact jL_mul _ _) ?_
            refine lv_lstore (lv' := [(4, .long (jL (Bb * b0))), (2, .long (jL (Aa * a0))), (0, .ref m0), (1, .int 0), (6, .int (nI kk))]) hx hb dX11_believed_81 hl (by decide) rfl (fun ls hl => ?_)
            refine lv_iinc (v := nI (kk + 1)) (lv' := [(6, .int (nI (kk + 1))), (4, .long (jL (Bb * b0))), (2, .long (jL (Aa * a0))), (0, .ref m0), (1, .int 0)]) hx hb dX11_believed_83 hl (k := 4) rfl (nI_1 kk) (by decide) rfl (fun ls hl => ?_)
            refine lv_goto (tgt := 46) hx hb dX11_believed_86 (by decide) ?_
            exact ih46 (kk + 1) (Aa * a0) (Bb * b0) (by omega) (by omega) (Nat.mul_pos hA1 ha1) (bl_s hA2 ha2) (Nat.mul_pos hB1 hb1) (bl_s hB2 hb2) _ _ _ hP hD hS (lv_sub hl [3, 4, 2, 1, 0] rfl)
      have hP := he_Psub (X := [(aM g tg 12 (he_ro 12 r8)), (oX11 m0 0 ta sz_ pl at_ fa fw cs fd rfm rt_ to_ rw_ wa ct rk rb cn br sm as_ go sh_ ir (nI oa) (nI ob) (nI th) ig sp_ ki tg of_ kp sf rs)]) (X2 := [(oX11 m0 0 ta sz_ pl at_ fa fw cs fd rfm rt_ to_ rw_ wa ct rk rb cn br sm as_ go sh_ ir (nI oa) (nI ob) (nI th) ig sp_ ki tg of_ kp sf rs), (aM g tg 12 (he_ro 12 r8))]) (P := (he_pl g L ln M)) hP [1, 0] rfl
      have hD := he_Dsub (X := [(aM g tg 12 (he_ro 12 r8)), (oX11 m0 0 ta sz_ pl at_ fa fw cs fd rfm rt_ to_ rw_ wa ct rk rb cn br sm as_ go sh_ ir (nI oa) (nI ob) (nI th) ig sp_ ki tg of_ kp sf rs)]) (X2 := [(oX11 m0 0 ta sz_ pl at_ fa fw cs fd rfm rt_ to_ rw_ wa ct rk rb cn br sm as_ go sh_ ir (nI oa) (nI ob) (nI th) ig sp_ ki tg of_ kp sf rs), (aM g tg 12 (he_ro 12 r8))]) (P := (he_pl g L ln M)) hD [1, 0] rfl rfl rfl
      exact loop46 ((th - 0) + 1) 0 oa ob (Nat.lt_succ_self _) (Nat.zero_le _) hoa1 (by omega) hob1 (by omega) _ _ _ hP hD hS (lv_sub hl [3, 4, 2, 1, 0] rfl)
    · exact absurd (by decide) c_8
  · exact absurd c_4 (by decide)
set_option maxHeartbeats 4000000 in
set_option maxRecDepth 100000 in
theorem h_X11_believed1 (l : Launch) (g : he_G) (m0 : Nat) (fd : Nat) (rfm : Nat) (rt_ : Nat) (to_ : Nat) (rw_ : Nat) (wa : Nat) (rk : Nat) (rb : Nat) (cn : Nat) (br : Nat) (sm : Nat) (as_ : Nat) (go : Nat) (sh_ : Nat) (ki : Nat) (tg : Nat) (of_ : Nat) (kp : Nat) (rs : Nat) (ta : Int32) (sz_ : Int32) (pl : Int32) (at_ : Int32) (fa : Int32) (fw : Int32) (cs : Int32) (ct : Int32) (ir : Int32) (ig : Int32) (sp_ : Int32) (sf : Int32) (tw : Int32) (oa : Nat) (ob : Nat) (th : Nat) (L : List Nat) (ln : Nat → Nat) (M : Nat → Nat → Int32) (r8 : Nat → Nat) (F_r8 : ∀ i, i < 12 → r8 i ∈ L ∧ ln (r8 i) = 2 ∧ True) (hth : th ≤ 12) (htk : tOk r8 M th) (hoa1 : 1 ≤ oa) (hoa2 : oa ≤ 99) (hob1 : 1 ≤ ob) (hob2 : ob ≤ 99) : he_J l yX11_believed wsX11_believed 1 23 0 0 g [.ref m0, .int 1] ([(oX11 m0 tw ta sz_ pl at_ fa fw cs fd rfm rt_ to_ rw_ wa ct rk rb cn br sm as_ go sh_ ir (nI oa) (nI ob) (nI th) ig sp_ ki tg of_ kp sf rs), (aM g tg 12 (he_ro 12 r8))] ++ he_pl g L ln M) (fun (r : Int64) (u : Unit) => True) (fun (u : Unit) => [(oX11 m0 0 ta sz_ pl at_ fa fw cs fd rfm rt_ to_ rw_ wa ct rk rb cn br sm as_ go sh_ ir (nI oa) (nI ob) (nI th) ig sp_ ki tg of_ kp sf rs), (aM g tg 12 (he_ro 12 r8))] ++ he_pl g L ln M) := by
  refine he_begin (l := l) (g := g) (y := yX11_believed) (wl := wsX11_believed) (fr := 1) (lo := 23) (mc := 0) (ms := 0) (av := [.ref m0, .int 1]) (ws := ([(oX11 m0 tw ta sz_ pl at_ fa fw cs fd rfm rt_ to_ rw_ wa ct rk rb cn br sm as_ go sh_ ir (nI oa) (nI ob) (nI th) ig sp_ ki tg of_ kp sf rs), (aM g tg 12 (he_ro 12 r8))] ++ he_pl g L ln M)) (cc := cX11_believed) (maxL := 12) (ret := (some .long)) (fun A => va_Ql (fun (r : Int64) (u : Unit) => True) (fun u t => he_post g A ((fun (u : Unit) => [(oX11 m0 0 ta sz_ pl at_ fa fw cs fd rfm rt_ to_ rw_ wa ct rk rb cn br sm as_ go sh_ ir (nI oa) (nI ob) (nI th) ig sp_ ki tg of_ kp sf rs), (aM g tg 12 (he_ro 12 r8))] ++ he_pl g L ln M) u) t) A) (by decide) rfl (Nat.le_of_ble_eq_true rfl) ?_
  intro p e s m args below meth c A ls H locs Q hQ hB
  obtain ⟨hx, hb, hr, hml, hown, hts, hlk, hin, hP, hK, hD, hS, hA, hE, hl⟩ := hB
  have hl : lv_has ls 12 [(0, .ref m0), (1, .int 1)] := hl
  have f85 := hts (.fieldLink RX11 85 "HiredEnemyModel" "thrown" "I") (iwoX11_believed (k := 0) rfl)
  have inX11 : ∀ w ∈ wsX110, w ∈ wsX11_believed := innX11_believed_X11
  have f58 := hts (.fieldLink RX11 58 "HiredEnemyModel" "oddsA" "I") (iwoX11_believed (k := 1) rfl)
  have f61 := hts (.fieldLink RX11 61 "HiredEnemyModel" "oddsB" "I") (iwoX11_believed (k := 2) rfl)
  have f165 := hts (.fieldLink RX11 165 "HiredEnemyModel" "things" "I") (iwoX11_believed (k := 3) rfl)
  have f67 := hts (.fieldLink RX11 67 "HiredEnemyModel" "thing" "[[I") (iwoX11_believed (k := 4) rfl)
  refine lv_aload_n hx hb dX11_believed_0 rfl (lv_at hl 0 rfl) ?_
  refine lv_iconst (v := 0) hx hb dX11_believed_1 (by decide) ?_
  refine va_put (v := .int 0) (ty := .int) (T := TX11) (N := 35) hx hb hts inX11 tyX11 tyX11_ok nmX11 hown hK hP hD hS 0 rfl rfl 0 (by decide) f85 (fun _ h9 => h9) rfl (by decide +kernel) rfl rfl (Nat.le_of_ble_eq_true rfl) dX11_believed_2 (fun H locs hP hD hS => ?_)
  have hP : va_P g.1 vwCl ([(oX11 m0 0 ta sz_ pl at_ fa fw cs fd rfm rt_ to_ rw_ wa ct rk rb cn br sm as_ go sh_ ir (nI oa) (nI ob) (nI th) ig sp_ ki tg of_ kp sf rs), (aM g tg 12 (he_ro 12 r8))] ++ he_pl g L ln M) H := hP
  have hD : va_D A ([(oX11 m0 0 ta sz_ pl at_ fa fw cs fd rfm rt_ to_ rw_ wa ct rk rb cn br sm as_ go sh_ ir (nI oa) (nI ob) (nI th) ig sp_ ki tg of_ kp sf rs), (aM g tg 12 (he_ro 12 r8))] ++ he_pl g L ln M) := hD
  refine lv_aload_n hx hb dX11_believed_5 rfl (lv_at hl 0 rfl) ?_
  refine lv_iload_n hx hb dX11_believed_6 rfl (lv_at hl 1 rfl) ?_
  refine lv_iconst (v := 0) hx hb dX11_believed_7 (by decide) ?_
  refine lv_iconst (v := 1) hx hb dX11_believed_8 (by decide) ?_
  refine he_ci (wc := []) (wr := ([(oX11 m0 0 ta sz_ pl at_ fa fw cs fd rfm rt_ to_ rw_ wa ct rk rb cn br sm as_ go sh_ ir (nI oa) (nI ob) (nI th) ig sp_ ki tg of_ kp sf rs), (aM g tg 12 (he_ro 12 r8))] ++ (he_pl g L ln M))) (va_runS (As := [.int 1, .int 0, .int 1]) (rest := [.ref m0]) ⟨hx, hb, hml, hown, hts⟩ (c_X11_in l g 1 0 1 H.size) (va_cwS 3 hts gX11_believed_X11_in rfl rfl rfl (by decide +kernel) ⟨Nat.le_of_ble_eq_true rfl, Nat.le_of_ble_eq_true rfl⟩) (he_preS (wc := []) hK hP hD hS hA hE [] rfl rfl) rfl rfl hl.1 rfl (lv_room (Nat.le_of_ble_eq_true rfl)) dX11_believed_9 ⟨(Nat.le_of_ble_eq_true rfl), (Nat.le_of_ble_eq_true rfl)⟩) hP hD hS hA [] (he_is [0, 1] [(oX11 m0 0 ta sz_ pl at_ fa fw cs fd rfm rt_ to_ rw_ wa ct rk rb cn br sm as_ go sh_ ir (nI oa) (nI ob) (nI th) ig sp_ ki tg of_ kp sf rs), (aM g tg 12 (he_ro 12 r8))] (he_pl g L ln M)) rfl (he_ixP rfl) (he_ndP rfl rfl) (he_disN (by decide) rfl) (fun r_1 u_2 H locs h_3 hP hD hS => ?_)
  have hP := va_P.swap hP
  have hD := va_D.swap hD
  subst h_3
  have hP : va_P g.1 vwCl ([(oX11 m0 0 ta sz_ pl at_ fa fw cs fd rfm rt_ to_ rw_ wa ct rk rb cn br sm as_ go sh_ ir (nI oa) (nI ob) (nI th) ig sp_ ki tg of_ kp sf rs), (aM g tg 12 (he_ro 12 r8))] ++ he_pl g L ln M) H := hP
  have hD : va_D A ([(oX11 m0 0 ta sz_ pl at_ fa fw cs fd rfm rt_ to_ rw_ wa ct rk rb cn br sm as_ go sh_ ir (nI oa) (nI ob) (nI th) ig sp_ ki tg of_ kp sf rs), (aM g tg 12 (he_ro 12 r8))] ++ he_pl g L ln M) := hD
  refine he_top (1) (by decide) ?_
  refine lv_if_ne (tgt := 19) hx hb dX11_believed_12 (by decide) (fun c_4 => ?_) (fun c_4 => ?_)
  · refine lv_iconst (v := 0) hx hb dX11_believed_19 (by decide) ?_
    refine lv_iconst (v := 1) hx hb dX11_believed_20 (by decide) ?_
    refine lv_iconst (v := 2) hx hb dX11_believed_21 (by decide) ?_
    refine he_ci (wc := [(oX11 m0 0 ta sz_ pl at_ fa fw cs fd rfm rt_ to_ rw_ wa ct rk rb cn br sm as_ go sh_ ir (nI oa) (nI ob) (nI th) ig sp_ ki tg of_ kp sf rs)]) (wr := ([(aM g tg 12 (he_ro 12 r8))] ++ (he_pl g L ln M))) (va_runV (As := [.int 0, .int 1, .int 2]) (rest := []) ⟨hx, hb, hml, hown, hts⟩ (c_X11_bad0 l g m0 fd rfm rt_ to_ rw_ wa rk rb cn br sm as_ go sh_ ki tg of_ kp rs ta sz_ pl at_ fa fw cs ct ir (nI oa) (nI ob) (nI th) ig sp_ sf 1 2 H.size) (cwV 3 hts gX11_believed_X11_bad rfl rfl rfl (by decide +kernel) ⟨Nat.le_of_ble_eq_true rfl, Nat.le_of_ble_eq_true rfl⟩) (he_preV (wc := [(oX11 m0 0 ta sz_ pl at_ fa fw cs fd rfm rt_ to_ rw_ wa ct rk rb cn br sm as_ go sh_ ir (nI oa) (nI ob) (nI th) ig sp_ ki tg of_ kp sf rs)]) hK hP hD hS hA hE [0] rfl rfl 0 rfl rfl) rfl rfl hl.1 rfl (lv_room (Nat.le_of_ble_eq_true rfl)) dX11_believed_22 ⟨(Nat.le_of_ble_eq_true rfl), (Nat.le_of_ble_eq_true rfl)⟩) hP hD hS hA [0] (he_is [1] [(oX11 m0 0 ta sz_ pl at_ fa fw cs fd rfm rt_ to_ rw_ wa ct rk rb cn br sm as_ go sh_ ir (nI oa) (nI ob) (nI th) ig sp_ ki tg of_ kp sf rs), (aM g tg 12 (he_ro 12 r8))] (he_pl g L ln M)) rfl (he_ixP rfl) (he_ndP rfl rfl) (he_disN (by decide) rfl) (fun r_5 u_6 H locs h_7 hP hD hS => ?_)
    have hP := va_P.swap hP
    have hD := va_D.swap hD
    subst h_7
    have hP : va_P g.1 vwCl ([(aM g tg 12 (he_ro 12 r8)), (oX11 m0 0 ta sz_ pl at_ fa fw cs fd rfm rt_ to_ rw_ wa ct rk rb cn br sm as_ go sh_ ir (nI oa) (nI ob) (nI th) ig sp_ ki tg of_ kp sf rs)] ++ he_pl g L ln M) H := hP
    have hD : va_D A ([(aM g tg 12 (he_ro 12 r8)), (oX11 m0 0 ta sz_ pl at_ fa fw cs fd rfm rt_ to_ rw_ wa ct rk rb cn br sm as_ go sh_ ir (nI oa) (nI ob) (nI th) ig sp_ ki tg of_ kp sf rs)] ++ he_pl g L ln M) := hD
    refine lv_if_eq (tgt := 30) hx hb dX11_believed_25 (by decide) (fun c_8 => ?_) (fun c_8 => ?_)
    · refine lv_aload_n hx hb dX11_believed_30 rfl (lv_at hl 0 rfl) ?_
      refine va_get (v := .int (nI oa)) (T := TX11) (N := 35) hx hb hts inX11 hown hK hP 1 rfl rfl 24 (by decide) f58 (fun _ h9 => h9) rfl dX11_believed_31 ?_
      refine lv_i2l (v := Int32.toInt64 (nI oa)) hx hb dX11_believed_34 rfl ?_
      refine he_topl (jL oa) (jL_i (by omega)) ?_
      refine lv_lstore_n (lv' := [(2, .long (jL oa)), (0, .ref m0), (1, .int 1)]) hx hb dX11_believed_35 rfl hl (by decide) rfl (fun ls hl => ?_)
      refine lv_aload_n hx hb dX11_believed_36 rfl (lv_at hl 1 rfl) ?_
      refine va_get (v := .int (nI ob)) (T := TX11) (N := 35) hx hb hts inX11 hown hK hP 1 rfl rfl 25 (by decide) f61 (fun _ h9 => h9) rfl dX11_believed_37 ?_
      refine lv_i2l (v := Int32.toInt64 (nI ob)) hx hb dX11_believed_40 rfl ?_
      refine he_topl (jL ob) (jL_i (by omega)) ?_
      refine lv_lstore (lv' := [(4, .long (jL ob)), (2, .long (jL oa)), (0, .ref m0), (1, .int 1)]) hx hb dX11_believed_41 hl (by decide) rfl (fun ls hl => ?_)
      refine lv_iconst (v := 0) hx hb dX11_believed_43 (by decide) ?_
      refine lv_istore (lv' := [(6, .int 0), (4, .long (jL ob)), (2, .long (jL oa)), (0, .ref m0), (1, .int 1)]) hx hb dX11_believed_44 hl (by decide) rfl (fun ls hl => ?_)
      have loop46 : ∀ (n9 : Nat) (kk : Nat) (Aa : Nat) (Bb : Nat), th - kk < n9 → (kk ≤ th) → (1 ≤ Aa) → (Aa ≤ 99 * 16 ^ kk) → (1 ≤ Bb) → (Bb ≤ 99 * 16 ^ kk) → ∀ (H : Heap) (locs : List Loc) (ls : Array Slot), va_P g.1 vwCl ([(oX11 m0 0 ta sz_ pl at_ fa fw cs fd rfm rt_ to_ rw_ wa ct rk rb cn br sm as_ go sh_ ir (nI oa) (nI ob) (nI th) ig sp_ ki tg of_ kp sf rs), (aM g tg 12 (he_ro 12 r8))] ++ he_pl g L ln M) H → va_D A ([(oX11 m0 0 ta sz_ pl at_ fa fw cs fd rfm rt_ to_ rw_ wa ct rk rb cn br sm as_ go sh_ ir (nI oa) (nI ob) (nI th) ig sp_ ki tg of_ kp sf rs), (aM g tg 12 (he_ro 12 r8))] ++ he_pl g L ln M) → va_S A s.heap H locs → lv_has ls 12 [(0, .ref m0), (1, .int 1), (2, .long (jL Aa)), (4, .long (jL Bb)), (6, .int (nI kk))] → W p l e (he_room 1 23 0 0) s m args below meth c H locs 0 0 Q (F0 m 46 ls []) := by
        intro n9
        induction n9 with
        | zero => intro kk Aa Bb hm9; exact absurd hm9 (Nat.not_lt_zero _)
        | succ n9 ih46 =>
          intro kk Aa Bb hm9 hkk hA1 hA2 hB1 hB2 H locs ls hP hD hS hl
          refine lv_iload hx hb dX11_believed_46 (lv_at hl 4 rfl) ?_
          refine lv_aload_n hx hb dX11_believed_48 rfl (lv_at hl 0 rfl) ?_
          refine va_get (v := .int (nI th)) (T := TX11) (N := 35) hx hb hts inX11 hown hK hP 0 rfl rfl 26 (by decide) f165 (fun _ h9 => h9) rfl dX11_believed_49 ?_
          refine lv_icmp_ge (tgt := 89) hx hb dX11_believed_52 (by decide) (fun c_9 => ?_) (fun c_9 => ?_)
          · have k_10 : th ≤ kk := (he_cle (a := th) (b := kk) rfl rfl (by omega) (by omega)).mp c_9
            refine lv_lload_n hx hb dX11_believed_89 rfl (lv_at hl 2 rfl) ?_
            refine lv_lstore (lv' := [(6, .long (jL Aa)), (0, .ref m0), (1, .int 1), (2, .long (jL Aa)), (4, .long (jL Bb))]) hx hb dX11_believed_90 hl (by decide) rfl (fun ls hl => ?_)
            refine lv_lload hx hb dX11_believed_92 (lv_at hl 4 rfl) ?_
            refine lv_lstore (lv' := [(8, .long (jL Bb)), (6, .long (jL Aa)), (0, .ref m0), (1, .int 1), (2, .long (jL Aa)), (4, .long (jL Bb))]) hx hb dX11_believed_94 hl (by decide) rfl (fun ls hl => ?_)
            have loop96 : ∀ (n9 : Nat) (ea : Nat) (eb : Nat), eb < n9 → (ea < 2 ^ 63) → (eb < 2 ^ 63) → (0 < ea + eb) → ∀ (H : Heap) (locs : List Loc) (ls : Array Slot), va_P g.1 vwCl ([(oX11 m0 0 ta sz_ pl at_ fa fw cs fd rfm rt_ to_ rw_ wa ct rk rb cn br sm as_ go sh_ ir (nI oa) (nI ob) (nI th) ig sp_ ki tg of_ kp sf rs), (aM g tg 12 (he_ro 12 r8))] ++ he_pl g L ln M) H → va_D A ([(oX11 m0 0 ta sz_ pl at_ fa fw cs fd rfm rt_ to_ rw_ wa ct rk rb cn br sm as_ go sh_ ir (nI oa) (nI ob) (nI th) ig sp_ ki tg of_ kp sf rs), (aM g tg 12 (he_ro 12 r8))] ++ he_pl g L ln M) → va_S A s.heap H locs → lv_has ls 12 [(0, .ref m0), (1, .int 1), (2, .long (jL Aa)), (4, .long (jL Bb)), (6, .long (jL ea)), (8, .long (jL eb))] → W p l e (he_room 1 23 0 0) s m args below meth c H locs 0 0 Q (F0 m 96 ls []) := by
              intro n9
              induction n9 with
              | zero => intro ea eb hm9; exact absurd hm9 (Nat.not_lt_zero _)
              | succ n9 ih96 =>
                intro ea eb hm9 heal hebl he H locs ls hP hD hS hl
                refine lv_lload hx hb dX11_believed_96 (lv_at hl 5 rfl) ?_
                refine lv_lconst (v := 0) hx hb dX11_believed_98 (by decide) ?_
                refine W.lcmp hx hb dX11_believed_99 ?_
                refine lv_if_eq (tgt := 121) hx hb dX11_believed_100 (by decide) (fun c_11 => ?_) (fun c_11 => ?_)
                · have he0 : eb = 0 := jL_c hebl c_11
                  refine lv_iload_n hx hb dX11_believed_121 rfl (lv_at hl 1 rfl) ?_
                  refine lv_if_ne (tgt := 132) hx hb dX11_believed_122 (by decide) (fun c_12 => ?_) (fun c_12 => ?_)
                  · refine lv_lload hx hb dX11_believed_132 (lv_at hl 3 rfl) ?_
                    refine lv_lload hx hb dX11_believed_134 (lv_at hl 4 rfl) ?_
                    refine lv_ldiv hx hb dX11_believed_136 (fun h9 => absurd (jL_z heal h9) (by omega)) ?_
                    exact he_rj hQ hx hb hr hlk hP hD hS dX11_believed_137 (Nat.le_of_ble_eq_true rfl) (Nat.le_of_ble_eq_true rfl) (()) (rfl) (trivial)
                  · exact absurd c_12 (by decide)
                · have he1 : ¬ eb = 0 := fun h9 => c_11 (by rw [h9]; decide)
                  refine lv_lload hx hb dX11_believed_103 (lv_at hl 4 rfl) ?_
                  refine lv_lload hx hb dX11_believed_105 (lv_at hl 5 rfl) ?_
                  refine lv_lrem hx hb dX11_believed_107 (fun h9 => he1 (jL_z hebl h9)) ?_
                  refine he_topl (jL (ea % eb)) (jL_rem heal hebl) ?_
                  refine lv_lstore (lv' := [(10, .long (jL (ea % eb))), (0, .ref m0), (1, .int 1), (2, .long (jL Aa)), (4, .long (jL Bb)), (6, .long (jL ea)), (8, .long (jL eb))]) hx hb dX11_believed_108 hl (by decide) rfl (fun ls hl => ?_)
                  refine lv_lload hx hb dX11_believed_110 (lv_at hl 6 rfl) ?_
                  refine lv_lstore (lv' := [(6, .long (jL eb)), (10, .long (jL (ea % eb))), (0, .ref m0), (1, .int 1), (2, .long (jL Aa)), (4, .long (jL Bb)), (8, .long (jL eb))]) hx hb dX11_believed_112 hl (by decide) rfl (fun ls hl => ?_)
                  refine lv_lload hx hb dX11_believed_114 (lv_at hl 1 rfl) ?_
                  refine lv_lstore (lv' := [(8, .long (jL (ea % eb))), (6, .long (jL eb)), (10, .long (jL (ea % eb))), (0, .ref m0), (1, .int 1), (2, .long (jL Aa)), (4, .long (jL Bb))]) hx hb dX11_believed_116 hl (by decide) rfl (fun ls hl => ?_)
                  refine lv_goto (tgt := 96) hx hb dX11_believed_118 (by decide) ?_
                  exact ih96 eb (ea % eb) (by have := Nat.mod_lt ea (Nat.pos_of_ne_zero he1); omega) hebl (by have := Nat.mod_lt ea (Nat.pos_of_ne_zero he1); omega) (by omega) _ _ _ hP hD hS (lv_sub hl [3, 4, 5, 6, 1, 0] rfl)
            exact loop96 ((Bb) + 1) Aa Bb (Nat.lt_succ_self _) (bl_lt hA2 (by omega)) (bl_lt hB2 (by omega)) (by omega) _ _ _ hP hD hS (lv_sub hl [2, 3, 4, 5, 1, 0] rfl)
          · have k_13 : ¬ (th ≤ kk) := fun h9 => c_9 ((he_cle (a := th) (b := kk) rfl rfl (by omega) (by omega)).mpr h9)
            obtain ⟨⟨a0, ha1, ha2, ha3⟩, b0, hb1, hb2, hb3⟩ := htk kk (by omega)
            refine lv_lload_n hx hb dX11_believed_55 rfl (lv_at hl 2 rfl) ?_
            refine lv_aload_n hx hb dX11_believed_56 rfl (lv_at hl 0 rfl) ?_
            refine va_get (v := .ref tg) (T := TX11) (N := 35) hx hb hts inX11 hown hK hP 0 rfl rfl 30 (by decide) f67 (fun _ h9 => h9) rfl dX11_believed_57 ?_
            refine lv_iload hx hb dX11_believed_60 (lv_at hl 4 rfl) ?_
            refine he_aldm hx hb hK hP 1 rfl (kk) rfl (by first | assumption | decide | omega) (by decide) dX11_believed_62 ?_
            refine lv_iconst (v := 0) hx hb dX11_believed_63 (by decide) ?_
            refine he_pald hx hb hK hP (F_r8 kk (by first | assumption | decide | omega)).1 (0) (by decide) (by rw [(F_r8 kk (by first | assumption | decide | omega)).2.1]; exact (by decide)) (by rw [(F_r8 kk (by first | assumption | decide | omega)).2.1]; decide) (nI a0) ha3 dX11_believed_64 ?_
            refine lv_i2l (v := Int32.toInt64 (nI a0)) hx hb dX11_believed_65 rfl ?_
            refine lv_lmul hx hb dX11_believed_66 ?_
            refine he_topl (jL (Aa * a0)) (by rw [jL_i (by omega)]; exact jL_mul _ _) ?_
            refine lv_lstore_n (lv' := [(2, .long (jL (Aa * a0))), (0, .ref m0), (1, .int 1), (4, .long (jL Bb)), (6, .int (nI kk))]) hx hb dX11_believed_67 rfl hl (by decide) rfl (fun ls hl => ?_)
            refine lv_lload hx hb dX11_believed_68 (lv_at hl 3 rfl) ?_
            refine lv_aload_n hx hb dX11_believed_70 rfl (lv_at hl 1 rfl) ?_
            refine va_get (v := .ref tg) (T := TX11) (N := 35) hx hb hts inX11 hown hK hP 0 rfl rfl 30 (by decide) f67 (fun _ h9 => h9) rfl dX11_believed_71 ?_
            refine lv_iload hx hb dX11_believed_74 (lv_at hl 4 rfl) ?_
            refine he_aldm hx hb hK hP 1 rfl (kk) rfl (by first | assumption | decide | omega) (by decide) dX11_believed_76 ?_
            refine lv_iconst (v := 1) hx hb dX11_believed_77 (by decide) ?_
            refine he_pald hx hb hK hP (F_r8 kk (by first | assumption | decide | omega)).1 (1) (by decide) (by rw [(F_r8 kk (by first | assumption | decide | omega)).2.1]; exact (by decide)) (by rw [(F_r8 kk (by first | assumption | decide | omega)).2.1]; decide) (nI b0) hb3 dX11_believed_78 ?_
            refine lv_i2l (v := Int32.toInt64 (nI b0)) hx hb dX11_believed_79 rfl ?_
            refine lv_lmul hx hb dX11_believed_80 ?_
            refine he_topl (jL (Bb * b0)) (by rw [jL_i (by omega)]; exact jL_mul _ _) ?_
            refine lv_lstore (lv' := [(4, .long (jL (Bb * b0))), (2, .long (jL (Aa * a0))), (0, .ref m0), (1, .int 1), (6, .int (nI kk))]) hx hb dX11_believed_81 hl (by decide) rfl (fun ls hl => ?_)
            refine lv_iinc (v := nI (kk + 1)) (lv' := [(6, .int (nI (kk + 1))), (4, .long (jL (Bb * b0))), (2, .long (jL (Aa * a0))), (0, .ref m0), (1, .int 1)]) hx hb dX11_believed_83 hl (k := 4) rfl (nI_1 kk) (by decide) rfl (fun ls hl => ?_)
            refine lv_goto (tgt := 46) hx hb dX11_believed_86 (by decide) ?_
            exact ih46 (kk + 1) (Aa * a0) (Bb * b0) (by omega) (by omega) (Nat.mul_pos hA1 ha1) (bl_s hA2 ha2) (Nat.mul_pos hB1 hb1) (bl_s hB2 hb2) _ _ _ hP hD hS (lv_sub hl [3, 4, 2, 1, 0] rfl)
      have hP := he_Psub (X := [(aM g tg 12 (he_ro 12 r8)), (oX11 m0 0 ta sz_ pl at_ fa fw cs fd rfm rt_ to_ rw_ wa ct rk rb cn br sm as_ go sh_ ir (nI oa) (nI ob) (nI th) ig sp_ ki tg of_ kp sf rs)]) (X2 := [(oX11 m0 0 ta sz_ pl at_ fa fw cs fd rfm rt_ to_ rw_ wa ct rk rb cn br sm as_ go sh_ ir (nI oa) (nI ob) (nI th) ig sp_ ki tg of_ kp sf rs), (aM g tg 12 (he_ro 12 r8))]) (P := (he_pl g L ln M)) hP [1, 0] rfl
      have hD := he_Dsub (X := [(aM g tg 12 (he_ro 12 r8)), (oX11 m0 0 ta sz_ pl at_ fa fw cs fd rfm rt_ to_ rw_ wa ct rk rb cn br sm as_ go sh_ ir (nI oa) (nI ob) (nI th) ig sp_ ki tg of_ kp sf rs)]) (X2 := [(oX11 m0 0 ta sz_ pl at_ fa fw cs fd rfm rt_ to_ rw_ wa ct rk rb cn br sm as_ go sh_ ir (nI oa) (nI ob) (nI th) ig sp_ ki tg of_ kp sf rs), (aM g tg 12 (he_ro 12 r8))]) (P := (he_pl g L ln M)) hD [1, 0] rfl rfl rfl
      exact loop46 ((th - 0) + 1) 0 oa ob (Nat.lt_succ_self _) (Nat.zero_le _) hoa1 (by omega) hob1 (by omega) _ _ _ hP hD hS (lv_sub hl [3, 4, 2, 1, 0] rfl)
    · exact absurd (by decide) c_8
  · exact absurd c_4 (by decide)
