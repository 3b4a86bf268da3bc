set_option maxHeartbeats 4000000 in
set_option maxRecDepth 100000 in
theorem g_X10_put (l : Launch) (g : he_G) (x0 : Nat) (y0 : Nat) (z0 : Nat) (p0 : Nat) (dr : Nat) (pa : Nat) (s0 : Nat) (im : Nat) (tr : Nat) (v0 : Nat) (rf : Nat) (k : Nat) (to_ : Int32) (ki : Int32) (tp : Nat → Int32) (v : Int32) (hk : k + 4 ≤ 500) : he_V l yX10_putOnTape wsX10_putOnTape 0 0 0 0 g [.ref x0, .int v] [(oX10 x0 y0 (nI k) z0 p0 dr pa to_ s0 im ki tr v0 rf), (aB g y0 500 tp)] (fun (u : Nat → Int32) => True) (fun (u : Nat → Int32) => [(oX10 x0 y0 (nI (k + 4)) z0 p0 dr pa to_ s0 im ki tr v0 rf), (aB g y0 500 u)]) := by
  refine he_begin (l := l) (g := g) (y := yX10_putOnTape) (wl := wsX10_putOnTape) (fr := 0) (lo := 0) (mc := 0) (ms := 0) (av := [.ref x0, .int v]) (ws := [(oX10 x0 y0 (nI k) z0 p0 dr pa to_ s0 im ki tr v0 rf), (aB g y0 500 tp)]) (cc := cX10_putOnTape) (maxL := 3) (ret := none) (fun A => va_Qv (fun (u : Nat → Int32) => True) (fun u t => he_post g A ((fun (u : Nat → Int32) => [(oX10 x0 y0 (nI (k + 4)) z0 p0 dr pa to_ s0 im ki tr v0 rf), (aB g y0 500 u)]) u) t) A) (by decide) rfl (Nat.le_of_ble_eq_true rfl) ?_
  intro p e s m args below meth c A ls H locs Q hQ hB
  obtain ⟨hx, hb, hr, hml, hown, hts, hlk, hin, hP, hK, hD, hS, hA, hE, hl⟩ := hB
  have hl : lv_has ls 3 [(0, .ref x0), (1, .int v)] := hl
  have f73 := hts (.fieldLink RX10 73 "HiredEnemy" "taped" "I") (iwoX10_putOnTape (k := 0) rfl)
  have inX10 : ∀ w ∈ wsX100, w ∈ wsX10_putOnTape := innX10_putOnTape_X10
  have f9 := hts (.fieldLink RX10 9 "HiredEnemy" "tape" "[B") (iwoX10_putOnTape (k := 1) rfl)
  refine lv_bipush (v := 24) hx hb dX10_putOnTape_0 (by decide) ?_
  refine lv_istore_n (lv' := [(2, .int 24), (0, .ref x0), (1, .int v)]) hx hb dX10_putOnTape_2 rfl hl (by decide) rfl (fun ls hl => ?_)
  refine lv_iload_n hx hb dX10_putOnTape_3 rfl (lv_at hl 0 rfl) ?_
  refine lv_if_lt (tgt := 48) hx hb dX10_putOnTape_4 (by decide) (fun c_1 => ?_) (fun c_1 => ?_)
  · exact absurd c_1 (by decide)
  · refine lv_aload_n hx hb dX10_putOnTape_7 rfl (lv_at hl 1 rfl) ?_
    refine va_get (v := .int (nI k)) (T := TX10) (N := 13) hx hb hts inX10 hown hK hP 0 rfl rfl 1 (by decide) f73 (fun _ h9 => h9) rfl dX10_putOnTape_8 ?_
    refine lv_aload_n hx hb dX10_putOnTape_11 rfl (lv_at hl 1 rfl) ?_
    refine va_get (v := .ref y0) (T := TX10) (N := 13) hx hb hts inX10 hown hK hP 0 rfl rfl 0 (by decide) f9 (fun _ h9 => h9) rfl dX10_putOnTape_12 ?_
    refine va_alen (v := 500) hx hb hK hP 1 0 rfl rfl rfl dX10_putOnTape_15 ?_
    refine lv_icmp_ge (tgt := 48) hx hb dX10_putOnTape_16 (by decide) (fun c_2 => ?_) (fun c_2 => ?_)
    · exact absurd c_2 (fun h9 => absurd ((he_cle (a := 500) (b := k) (by decide) rfl (by decide) (by omega)).mp h9) (by omega))
    · refine lv_aload_n hx hb dX10_putOnTape_19 rfl (lv_at hl 1 rfl) ?_
      refine va_get (v := .ref y0) (T := TX10) (N := 13) hx hb hts inX10 hown hK hP 0 rfl rfl 0 (by decide) f9 (fun _ h9 => h9) rfl dX10_putOnTape_20 ?_
      refine lv_aload_n hx hb dX10_putOnTape_23 rfl (lv_at hl 1 rfl) ?_
      refine va_get (v := .int (nI k)) (T := TX10) (N := 13) hx hb hts inX10 hown hK hP 0 rfl rfl 1 (by decide) f73 (fun _ h9 => h9) rfl dX10_putOnTape_24 ?_
      refine lv_iload_n hx hb dX10_putOnTape_27 rfl (lv_at hl 2 rfl) ?_
      refine lv_iload_n hx hb dX10_putOnTape_28 rfl (lv_at hl 0 rfl) ?_
      obtain ⟨us_3, eus_3⟩ : ∃ z : Int32, (Int32.toUInt32 v >>> (Int32.toUInt32 24 &&& Int32.toUInt32 31)).toInt32 = z := ⟨_, rfl⟩
      refine lv_iushr (v := us_3) hx hb dX10_putOnTape_29 eus_3 ?_
      obtain ⟨ib_4, eib_4⟩ : ∃ z : Int32, (Int32.toInt8 us_3).toInt32 = z := ⟨_, rfl⟩
      refine lv_i2b (v := ib_4) hx hb dX10_putOnTape_30 eib_4 ?_
      refine he_bast hx hb hK hP hD hS 1 rfl (k) rfl (by first | assumption | decide | omega) (by first | decide | assumption) dX10_putOnTape_31 (fun H locs hP hD hS => ?_)
      have hP : va_P g.1 vwCl [(oX10 x0 y0 (nI k) z0 p0 dr pa to_ s0 im ki tr v0 rf), (aB g y0 500 (upd tp k (vp_nar .byte ib_4)))] H := hP
      have hD : va_D A [(oX10 x0 y0 (nI k) z0 p0 dr pa to_ s0 im ki tr v0 rf), (aB g y0 500 (upd tp k (vp_nar .byte ib_4)))] := hD
      refine lv_aload_n hx hb dX10_putOnTape_32 rfl (lv_at hl 1 rfl) ?_
      refine lv_dup hx hb dX10_putOnTape_33 rfl ?_
      refine va_get (v := .int (nI k)) (T := TX10) (N := 13) hx hb hts inX10 hown hK hP 0 rfl rfl 1 (by decide) f73 (fun _ h9 => h9) rfl dX10_putOnTape_34 ?_
      refine lv_iconst (v := 1) hx hb dX10_putOnTape_37 (by decide) ?_
      refine lv_iadd hx hb dX10_putOnTape_38 ?_
      refine he_top (nI (k + 1)) (nI_add k 1) ?_
      refine va_put (v := .int (nI (k + 1))) (ty := .int) (T := TX10) (N := 13) hx hb hts inX10 tyX10 tyX10_ok nmX10 hown hK hP hD hS 0 rfl rfl 1 (by decide) f73 (fun _ h9 => h9) rfl (by decide +kernel) rfl rfl (Nat.le_of_ble_eq_true rfl) dX10_putOnTape_39 (fun H locs hP hD hS => ?_)
      have hP : va_P g.1 vwCl [(oX10 x0 y0 (nI (k + 1)) z0 p0 dr pa to_ s0 im ki tr v0 rf), (aB g y0 500 (upd tp k (vp_nar .byte ib_4)))] H := hP
      have hD : va_D A [(oX10 x0 y0 (nI (k + 1)) z0 p0 dr pa to_ s0 im ki tr v0 rf), (aB g y0 500 (upd tp k (vp_nar .byte ib_4)))] := hD
      refine lv_iinc (v := 16) (lv' := [(2, .int 16), (0, .ref x0), (1, .int v)]) hx hb dX10_putOnTape_42 hl (k := 0) rfl (by decide) (by decide) rfl (fun ls hl => ?_)
      refine lv_goto (tgt := 3) hx hb dX10_putOnTape_45 (by decide) ?_
      refine lv_iload_n hx hb dX10_putOnTape_3 rfl (lv_at hl 0 rfl) ?_
      refine lv_if_lt (tgt := 48) hx hb dX10_putOnTape_4 (by decide) (fun c_5 => ?_) (fun c_5 => ?_)
      · exact absurd c_5 (by decide)
      · refine lv_aload_n hx hb dX10_putOnTape_7 rfl (lv_at hl 1 rfl) ?_
        refine va_get (v := .int (nI (k + 1))) (T := TX10) (N := 13) hx hb hts inX10 hown hK hP 0 rfl rfl 1 (by decide) f73 (fun _ h9 => h9) rfl dX10_putOnTape_8 ?_
        refine lv_aload_n hx hb dX10_putOnTape_11 rfl (lv_at hl 1 rfl) ?_
        refine va_get (v := .ref y0) (T := TX10) (N := 13) hx hb hts inX10 hown hK hP 0 rfl rfl 0 (by decide) f9 (fun _ h9 => h9) rfl dX10_putOnTape_12 ?_
        refine va_alen (v := 500) hx hb hK hP 1 0 rfl rfl rfl dX10_putOnTape_15 ?_
        refine lv_icmp_ge (tgt := 48) hx hb dX10_putOnTape_16 (by decide) (fun c_6 => ?_) (fun c_6 => ?_)
        · exact absurd c_6 (fun h9 => absurd ((he_cle (a := 500) (b := k + 1) (by decide) rfl (by decide) (by omega)).mp h9) (by omega))
        · refine lv_aload_n hx hb dX10_putOnTape_19 rfl (lv_at hl 1 rfl) ?_
          refine va_get (v := .ref y0) (T := TX10) (N := 13) hx hb hts inX10 hown hK hP 0 rfl rfl 0 (by decide) f9 (fun _ h9 => h9) rfl dX10_putOnTape_20 ?_
          refine lv_aload_n hx hb dX10_putOnTape_23 rfl (lv_at hl 1 rfl) ?_
          refine va_get (v := .int (nI (k + 1))) (T := TX10) (N := 13) hx hb hts inX10 hown hK hP 0 rfl rfl 1 (by decide) f73 (fun _ h9 => h9) rfl dX10_putOnTape_24 ?_
          refine lv_iload_n hx hb dX10_putOnTape_27 rfl (lv_at hl 2 rfl) ?_
          refine lv_iload_n hx hb dX10_putOnTape_28 rfl (lv_at hl 0 rfl) ?_
          obtain ⟨us_7, eus_7⟩ : ∃ z : Int32, (Int32.toUInt32 v >>> (Int32.toUInt32 16 &&& Int32.toUInt32 31)).toInt32 = z := ⟨_, rfl⟩
          refine lv_iushr (v := us_7) hx hb dX10_putOnTape_29 eus_7 ?_
          obtain ⟨ib_8, eib_8⟩ : ∃ z : Int32, (Int32.toInt8 us_7).toInt32 = z := ⟨_, rfl⟩
          refine lv_i2b (v := ib_8) hx hb dX10_putOnTape_30 eib_8 ?_
          refine he_bast hx hb hK hP hD hS 1 rfl (k + 1) rfl (by first | assumption | decide | omega) (by first | decide | assumption) dX10_putOnTape_31 (fun H locs hP hD hS => ?_)
          have hP : va_P g.1 vwCl [(oX10 x0 y0 (nI (k + 1)) z0 p0 dr pa to_ s0 im ki tr v0 rf), (aB g y0 500 (upd (upd tp k (vp_nar .byte ib_4)) (k + 1) (vp_nar .byte ib_8)))] H := hP
          have hD : va_D A [(oX10 x0 y0 (nI (k + 1)) z0 p0 dr pa to_ s0 im ki tr v0 rf), (aB g y0 500 (upd (upd tp k (vp_nar .byte ib_4)) (k + 1) (vp_nar .byte ib_8)))] := hD
          refine lv_aload_n hx hb dX10_putOnTape_32 rfl (lv_at hl 1 rfl) ?_
          refine lv_dup hx hb dX10_putOnTape_33 rfl ?_
          refine va_get (v := .int (nI (k + 1))) (T := TX10) (N := 13) hx hb hts inX10 hown hK hP 0 rfl rfl 1 (by decide) f73 (fun _ h9 => h9) rfl dX10_putOnTape_34 ?_
          refine lv_iconst (v := 1) hx hb dX10_putOnTape_37 (by decide) ?_
          refine lv_iadd hx hb dX10_putOnTape_38 ?_
          refine he_top (nI (k + 1 + 1)) (nI_add (k + 1) 1) ?_
          refine va_put (v := .int (nI (k + 1 + 1))) (ty := .int) (T := TX10) (N := 13) hx hb hts inX10 tyX10 tyX10_ok nmX10 hown hK hP hD hS 0 rfl rfl 1 (by decide) f73 (fun _ h9 => h9) rfl (by decide +kernel) rfl rfl (Nat.le_of_ble_eq_true rfl) dX10_putOnTape_39 (fun H locs hP hD hS => ?_)
          have hP : va_P g.1 vwCl [(oX10 x0 y0 (nI (k + 1 + 1)) z0 p0 dr pa to_ s0 im ki tr v0 rf), (aB g y0 500 (upd (upd tp k (vp_nar .byte ib_4)) (k + 1) (vp_nar .byte ib_8)))] H := hP
          have hD : va_D A [(oX10 x0 y0 (nI (k + 1 + 1)) z0 p0 dr pa to_ s0 im ki tr v0 rf), (aB g y0 500 (upd (upd tp k (vp_nar .byte ib_4)) (k + 1) (vp_nar .byte ib_8)))] := hD
          refine lv_iinc (v := 8) (lv' := [(2, .int 8), (0, .ref x0), (1, .int v)]) hx hb dX10_putOnTape_42 hl (k := 0) rfl (by decide) (by decide) rfl (fun ls hl => ?_)
          refine lv_goto (tgt := 3) hx hb dX10_putOnTape_45 (by decide) ?_
          refine lv_iload_n hx hb dX10_putOnTape_3 rfl (lv_at hl 0 rfl) ?_
          refine lv_if_lt (tgt := 48) hx hb dX10_putOnTape_4 (by decide) (fun c_9 => ?_) (fun c_9 => ?_)
          · exact absurd c_9 (by decide)
          · refine lv_aload_n hx hb dX10_putOnTape_7 rfl (lv_at hl 1 rfl) ?_
            refine va_get (v := .int (nI (k + 1 + 1))) (T := TX10) (N := 13) hx hb hts inX10 hown hK hP 0 rfl rfl 1 (by decide) f73 (fun _ h9 => h9) rfl dX10_putOnTape_8 ?_
            refine lv_aload_n hx hb dX10_putOnTape_11 rfl (lv_at hl 1 rfl) ?_
            refine va_get (v := .ref y0) (T := TX10) (N := 13) hx hb hts inX10 hown hK hP 0 rfl rfl 0 (by decide) f9 (fun _ h9 => h9) rfl dX10_putOnTape_12 ?_
            refine va_alen (v := 500) hx hb hK hP 1 0 rfl rfl rfl dX10_putOnTape_15 ?_
            refine lv_icmp_ge (tgt := 48) hx hb dX10_putOnTape_16 (by decide) (fun c_10 => ?_) (fun c_10 => ?_)
            · exact absurd c_10 (fun h9 => absurd ((he_cle (a := 500) (b := k + 1 + 1) (by decide) rfl (by decide) (by omega)).mp h9) (by omega))
            · refine lv_aload_n hx hb dX10_putOnTape_19 rfl (lv_at hl 1 rfl) ?_
              refine va_get (v := .ref y0) (T := TX10) (N := 13) hx hb hts inX10 hown hK hP 0 rfl rfl 0 (by decide) f9 (fun _ h9 => h9) rfl dX10_putOnTape_20 ?_
              refine lv_aload_n hx hb dX10_putOnTape_23 rfl (lv_at hl 1 rfl) ?_
              refine va_get (v := .int (nI (k + 1 + 1))) (T := TX10) (N := 13) hx hb hts inX10 hown hK hP 0 rfl rfl 1 (by decide) f73 (fun _ h9 => h9) rfl dX10_putOnTape_24 ?_
              refine lv_iload_n hx hb dX10_putOnTape_27 rfl (lv_at hl 2 rfl) ?_
              refine lv_iload_n hx hb dX10_putOnTape_28 rfl (lv_at hl 0 rfl) ?_
              obtain ⟨us_11, eus_11⟩ : ∃ z : Int32, (Int32.toUInt32 v >>> (Int32.toUInt32 8 &&& Int32.toUInt32 31)).toInt32 = z := ⟨_, rfl⟩
              refine lv_iushr (v := us_11) hx hb dX10_putOnTape_29 eus_11 ?_
              obtain ⟨ib_12, eib_12⟩ : ∃ z : Int32, (Int32.toInt8 us_11).toInt32 = z := ⟨_, rfl⟩
              refine lv_i2b (v := ib_12) hx hb dX10_putOnTape_30 eib_12 ?_
              refine he_bast hx hb hK hP hD hS 1 rfl (k + 1 + 1) rfl (by first | assumption | decide | omega) (by first | decide | assumption) dX10_putOnTape_31 (fun H locs hP hD hS => ?_)
              have hP : va_P g.1 vwCl [(oX10 x0 y0 (nI (k + 1 + 1)) z0 p0 dr pa to_ s0 im ki tr v0 rf), (aB g y0 500 (upd (upd (upd tp k (vp_nar .byte ib_4)) (k + 1) (vp_nar .byte ib_8)) (k + 1 + 1) (vp_nar .byte ib_12)))] H := hP
              have hD : va_D A [(oX10 x0 y0 (nI (k + 1 + 1)) z0 p0 dr pa to_ s0 im ki tr v0 rf), (aB g y0 500 (upd (upd (upd tp k (vp_nar .byte ib_4)) (k + 1) (vp_nar .byte ib_8)) (k + 1 + 1) (vp_nar .byte ib_12)))] := hD
              refine lv_aload_n hx hb dX10_putOnTape_32 rfl (lv_at hl 1 rfl) ?_
              refine lv_dup hx hb dX10_putOnTape_33 rfl ?_
              refine va_get (v := .int (nI (k + 1 + 1))) (T := TX10) (N := 13) hx hb hts inX10 hown hK hP 0 rfl rfl 1 (by decide) f73 (fun _ h9 => h9) rfl dX10_putOnTape_34 ?_
              refine lv_iconst (v := 1) hx hb dX10_putOnTape_37 (by decide) ?_
              refine lv_iadd hx hb dX10_putOnTape_38 ?_
              refine he_top (nI (k + 1 + 1 + 1)) (nI_add (k + 1 + 1) 1) ?_
              refine va_put (v := .int (nI (k + 1 + 1 + 1))) (ty := .int) (T := TX10) (N := 13) hx hb hts inX10 tyX10 tyX10_ok nmX10 hown hK hP hD hS 0 rfl rfl 1 (by decide) f73 (fun _ h9 => h9) rfl (by decide +kernel) rfl rfl (Nat.le_of_ble_eq_true rfl) dX10_putOnTape_39 (fun H locs hP hD hS => ?_)
              have hP : va_P g.1 vwCl [(oX10 x0 y0 (nI (k + 1 + 1 + 1)) z0 p0 dr pa to_ s0 im ki tr v0 rf), (aB g y0 500 (upd (upd (upd tp k (vp_nar .byte ib_4)) (k + 1) (vp_nar .byte ib_8)) (k + 1 + 1) (vp_nar .byte ib_12)))] H := hP
              have hD : va_D A [(oX10 x0 y0 (nI (k + 1 + 1 + 1)) z0 p0 dr pa to_ s0 im ki tr v0 rf), (aB g y0 500 (upd (upd (upd tp k (vp_nar .byte ib_4)) (k + 1) (vp_nar .byte ib_8)) (k + 1 + 1) (vp_nar .byte ib_12)))] := hD
              refine lv_iinc (v := 0) (lv' := [(2, .int 0), (0, .ref x0), (1, .int v)]) hx hb dX10_putOnTape_42 hl (k := 0) rfl (by decide) (by decide) rfl (fun ls hl => ?_)
              refine lv_goto (tgt := 3) hx hb dX10_putOnTape_45 (by decide) ?_
              refine lv_iload_n hx hb dX10_putOnTape_3 rfl (lv_at hl 0 rfl) ?_
              refine lv_if_lt (tgt := 48) hx hb dX10_putOnTape_4 (by decide) (fun c_13 => ?_) (fun c_13 => ?_)
              · exact absurd c_13 (by decide)
              · refine lv_aload_n hx hb dX10_putOnTape_7 rfl (lv_at hl 1 rfl) ?_
                refine va_get (v := .int (nI (k + 1 + 1 + 1))) (T := TX10) (N := 13) hx hb hts inX10 hown hK hP 0 rfl rfl 1 (by decide) f73 (fun _ h9 => h9) rfl dX10_putOnTape_8 ?_
                refine lv_aload_n hx hb dX10_putOnTape_11 rfl (lv_at hl 1 rfl) ?_
                refine va_get (v := .ref y0) (T := TX10) (N := 13) hx hb hts inX10 hown hK hP 0 rfl rfl 0 (by decide) f9 (fun _ h9 => h9) rfl dX10_putOnTape_12 ?_
                refine va_alen (v := 500) hx hb hK hP 1 0 rfl rfl rfl dX10_putOnTape_15 ?_
                refine lv_icmp_ge (tgt := 48) hx hb dX10_putOnTape_16 (by decide) (fun c_14 => ?_) (fun c_14 => ?_)
                · exact absurd c_14 (fun h9 => absurd ((he_cle (a := 500) (b := k + 1 + 1 + 1) (by decide) rfl (by decide) (by omega)).mp h9) (by omega))
                · refine lv_aload_n hx hb dX10_putOnTape_19 rfl (lv_at hl 1 rfl) ?_
                  refine va_get (v := .ref y0) (T := TX10) (N := 13) hx hb hts inX10 hown hK hP 0 rfl rfl 0 (by decide) f9 (fun _ h9 => h9) rfl dX10_putOnTape_20 ?_
                  refine lv_aload_n hx hb dX10_putOnTape_23 rfl (lv_at hl 1 rfl) ?_
                  refine va_get (v := .int (nI (k + 1 + 1 + 1))) (T := TX10) (N := 13) hx hb hts inX10 hown hK hP 0 rfl rfl 1 (by decide) f73 (fun _ h9 => h9) rfl dX10_putOnTape_24 ?_
                  refine lv_iload_n hx hb dX10_putOnTape_27 rfl (lv_at hl 2 rfl) ?_
                  refine lv_iload_n hx hb dX10_putOnTape_28 rfl (lv_at hl 0 rfl) ?_
                  obtain ⟨us_15, eus_15⟩ : ∃ z : Int32, (Int32.toUInt32 v >>> (Int32.toUInt32 0 &&& Int32.toUInt32 31)).toInt32 = z := ⟨_, rfl⟩
                  refine lv_iushr (v := us_15) hx hb dX10_putOnTape_29 eus_15 ?_
                  obtain ⟨ib_16, eib_16⟩ : ∃ z : Int32, (Int32.toInt8 us_15).toInt32 = z := ⟨_, rfl⟩
                  refine lv_i2b (v := ib_16) hx hb dX10_putOnTape_30 eib_16 ?_
                  refine he_bast hx hb hK hP hD hS 1 rfl (k + 1 + 1 + 1) rfl (by first | assumption | decide | omega) (by first | decide | assumption) dX10_putOnTape_31 (fun H locs hP hD hS => ?_)
                  have hP : va_P g.1 vwCl [(oX10 x0 y0 (nI (k + 1 + 1 + 1)) z0 p0 dr pa to_ s0 im ki tr v0 rf), (aB g y0 500 (upd (upd (upd (upd tp k (vp_nar .byte ib_4)) (k + 1) (vp_nar .byte ib_8)) (k + 1 + 1) (vp_nar .byte ib_12)) (k + 1 + 1 + 1) (vp_nar .byte ib_16)))] H := hP
                  have hD : va_D A [(oX10 x0 y0 (nI (k + 1 + 1 + 1)) z0 p0 dr pa to_ s0 im ki tr v0 rf), (aB g y0 500 (upd (upd (upd (upd tp k (vp_nar .byte ib_4)) (k + 1) (vp_nar .byte ib_8)) (k + 1 + 1) (vp_nar .byte ib_12)) (k + 1 + 1 + 1) (vp_nar .byte ib_16)))] := hD
                  refine lv_aload_n hx hb dX10_putOnTape_32 rfl (lv_at hl 1 rfl) ?_
                  refine lv_dup hx hb dX10_putOnTape_33 rfl ?_
                  refine va_get (v := .int (nI (k + 1 + 1 + 1))) (T := TX10) (N := 13) hx hb hts inX10 hown hK hP 0 rfl rfl 1 (by decide) f73 (fun _ h9 => h9) rfl dX10_putOnTape_34 ?_
                  refine lv_iconst (v := 1) hx hb dX10_putOnTape_37 (by decide) ?_
                  refine lv_iadd hx hb dX10_putOnTape_38 ?_
                  refine he_top (nI (k + 1 + 1 + 1 + 1)) (nI_add (k + 1 + 1 + 1) 1) ?_
                  refine va_put (v := .int (nI (k + 1 + 1 + 1 + 1))) (ty := .int) (T := TX10) (N := 13) hx hb hts inX10 tyX10 tyX10_ok nmX10 hown hK hP hD hS 0 rfl rfl 1 (by decide) f73 (fun _ h9 => h9) rfl (by decide +kernel) rfl rfl (Nat.le_of_ble_eq_true rfl) dX10_putOnTape_39 (fun H locs hP hD hS => ?_)
                  have hP : va_P g.1 vwCl [(oX10 x0 y0 (nI (k + 1 + 1 + 1 + 1)) z0 p0 dr pa to_ s0 im ki tr v0 rf), (aB g y0 500 (upd (upd (upd (upd tp k (vp_nar .byte ib_4)) (k + 1) (vp_nar .byte ib_8)) (k + 1 + 1) (vp_nar .byte ib_12)) (k + 1 + 1 + 1) (vp_nar .byte ib_16)))] H := hP
                  have hD : va_D A [(oX10 x0 y0 (nI (k + 1 + 1 + 1 + 1)) z0 p0 dr pa to_ s0 im ki tr v0 rf), (aB g y0 500 (upd (upd (upd (upd tp k (vp_nar .byte ib_4)) (k + 1) (vp_nar .byte ib_8)) (k + 1 + 1) (vp_nar .byte ib_12)) (k + 1 + 1 + 1) (vp_nar .byte ib_16)))] := hD
                  refine lv_iinc (v := (-8)) (lv' := [(2, .int (-8)), (0, .ref x0), (1, .int v)]) hx hb dX10_putOnTape_42 hl (k := 0) rfl (by decide) (by decide) rfl (fun ls hl => ?_)
                  refine lv_goto (tgt := 3) hx hb dX10_putOnTape_45 (by decide) ?_
                  refine lv_iload_n hx hb dX10_putOnTape_3 rfl (lv_at hl 0 rfl) ?_
                  refine lv_if_lt (tgt := 48) hx hb dX10_putOnTape_4 (by decide) (fun c_17 => ?_) (fun c_17 => ?_)
                  · exact he_rv hQ hx hb hr hlk hP hD hS dX10_putOnTape_48 (Nat.le_of_ble_eq_true rfl) (Nat.le_of_ble_eq_true rfl) (upd (upd (upd (upd tp k (vp_nar .byte ib_4)) (k + 1) (vp_nar .byte ib_8)) (k + 1 + 1) (vp_nar .byte ib_12)) (k + 1 + 1 + 1) (vp_nar .byte ib_16)) (rfl) (trivial)
                  · exact absurd (by decide) c_17
set_option maxHeartbeats 4000000 in
set_option maxRecDepth 100000 in
theorem g_X10_feed (l : Launch) (g : he_G) (x0 : Nat) (y0 : Nat) (z0 : Nat) (p0 : Nat) (dr : Nat) (pa : Nat) (s0 : Nat) (im : Nat) (tr : Nat) (v0 : Nat) (rf : Nat) (k : Nat) (to_ : Int32) (ki : Int32) (tp : Nat → Int32) (v1 : Int32) (v2 : Int32) (v3 : Int32) (v4 : Int32) (v5 : Int32) (hk : k + 20 ≤ 500) : he_I l yX10_feed wsX10_feed 1 22 0 0 g [.ref x0, .int v1, .int v2, .int v3, .int v4, .int v5] [(oX10 x0 y0 (nI k) z0 p0 dr pa to_ s0 im ki tr v0 rf), (aB g y0 500 tp)] (fun (r : Int32) (u : Nat → Int32) => r = nI (k + 4 + 4 + 4 + 4 + 4)) (fun (u : Nat → Int32) => [(oX10 x0 y0 (nI (k + 4 + 4 + 4 + 4 + 4)) z0 p0 dr pa to_ s0 im ki tr v0 rf), (aB g y0 500 u)]) := by
  refine he_begin (l := l) (g := g) (y := yX10_feed) (wl := wsX10_feed) (fr := 1) (lo := 22) (mc := 0) (ms := 0) (av := [.ref x0, .int v1, .int v2, .int v3, .int v4, .int v5]) (ws := [(oX10 x0 y0 (nI k) z0 p0 dr pa to_ s0 im ki tr v0 rf), (aB g y0 500 tp)]) (cc := cX10_feed) (maxL := 6) (ret := (some .int)) (fun A => va_Qi (fun (r : Int32) (u : Nat → Int32) => r = nI (k + 4 + 4 + 4 + 4 + 4)) (fun u t => he_post g A ((fun (u : Nat → Int32) => [(oX10 x0 y0 (nI (k + 4 + 4 + 4 + 4 + 4)) z0 p0 dr pa to_ s0 im ki tr v0 rf), (aB g y0 500 u)]) u) t) A) (by decide) rfl (Nat.le_of_ble_eq_true rfl) ?_
  intro p e s m args below meth c A ls H locs Q hQ hB
  obtain ⟨hx, hb, hr, hml, hown, hts, hlk, hin, hP, hK, hD, hS, hA, hE, hl⟩ := hB
  have hl : lv_has ls 6 [(0, .ref x0), (1, .int v1), (2, .int v2), (3, .int v3), (4, .int v4), (5, .int v5)] := hl
  have f73 := hts (.fieldLink RX10 73 "HiredEnemy" "taped" "I") (iwoX10_feed (k := 0) rfl)
  have inX10 : ∀ w ∈ wsX100, w ∈ wsX10_feed := innX10_feed_X10
  refine lv_aload_n hx hb dX10_feed_0 rfl (lv_at hl 0 rfl) ?_
  refine va_get (v := .int (nI k)) (T := TX10) (N := 13) hx hb hts inX10 hown hK hP 0 rfl rfl 1 (by decide) f73 (fun _ h9 => h9) rfl dX10_feed_1 ?_
  refine lv_bipush (v := 20) hx hb dX10_feed_4 (by decide) ?_
  refine lv_iadd hx hb dX10_feed_6 ?_
  refine he_top (nI (k + 20)) (nI_add k 20) ?_
  refine lv_sipush (v := 500) hx hb dX10_feed_7 (by decide) ?_
  refine lv_icmp_le (tgt := 15) hx hb dX10_feed_10 (by decide) (fun c_1 => ?_) (fun c_1 => ?_)
  · refine lv_aload_n hx hb dX10_feed_15 rfl (lv_at hl 0 rfl) ?_
    refine lv_iload_n hx hb dX10_feed_16 rfl (lv_at hl 1 rfl) ?_
    refine he_cv (wc := [(oX10 x0 y0 (nI k) z0 p0 dr pa to_ s0 im ki tr v0 rf), (aB g y0 500 tp)]) (wr := []) (va_runV (As := [.int v1]) (rest := []) ⟨hx, hb, hml, hown, hts⟩ (g_X10_put l g x0 y0 z0 p0 dr pa s0 im tr v0 rf k to_ ki tp v1 (by first | assumption | decide | omega) H.size) (cwV 1 hts gX10_feed_X10_putOnTape rfl rfl rfl (by decide +kernel) ⟨Nat.le_of_ble_eq_true rfl, Nat.le_of_ble_eq_true rfl⟩) (he_preV (wc := [(oX10 x0 y0 (nI k) z0 p0 dr pa to_ s0 im ki tr v0 rf), (aB g y0 500 tp)]) hK hP hD hS hA hE [0, 1] rfl rfl 0 rfl rfl) rfl rfl hl.1 rfl (lv_room (Nat.le_of_ble_eq_true rfl)) dX10_feed_17 ⟨(Nat.le_of_ble_eq_true rfl), (Nat.le_of_ble_eq_true rfl)⟩) hP hD hS hA [0, 1] [] rfl rfl rfl (by decide) (fun u_3 H locs h_4 hP hD hS => ?_)
    obtain ⟨uf_5, rfl⟩ : ∃ z, z = u_3 := ⟨_, rfl⟩
    have hP : va_P g.1 vwCl [(oX10 x0 y0 (nI (k + 4)) z0 p0 dr pa to_ s0 im ki tr v0 rf), (aB g y0 500 uf_5)] H := hP
    have hD : va_D A [(oX10 x0 y0 (nI (k + 4)) z0 p0 dr pa to_ s0 im ki tr v0 rf), (aB g y0 500 uf_5)] := hD
    refine lv_aload_n hx hb dX10_feed_20 rfl (lv_at hl 0 rfl) ?_
    refine lv_iload_n hx hb dX10_feed_21 rfl (lv_at hl 2 rfl) ?_
    refine he_cv (wc := [(oX10 x0 y0 (nI (k + 4)) z0 p0 dr pa to_ s0 im ki tr v0 rf), (aB g y0 500 uf_5)]) (wr := []) (va_runV (As := [.int v2]) (rest := []) ⟨hx, hb, hml, hown, hts⟩ (g_X10_put l g x0 y0 z0 p0 dr pa s0 im tr v0 rf (k + 4) to_ ki uf_5 v2 (by first | assumption | decide | omega) H.size) (cwV 1 hts gX10_feed_X10_putOnTape rfl rfl rfl (by decide +kernel) ⟨Nat.le_of_ble_eq_true rfl, Nat.le_of_ble_eq_true rfl⟩) (he_preV (wc := [(oX10 x0 y0 (nI (k + 4)) z0 p0 dr pa to_ s0 im ki tr v0 rf), (aB g y0 500 uf_5)]) hK hP hD hS hA hE [0, 1] rfl rfl 0 rfl rfl) rfl rfl hl.1 rfl (lv_room (Nat.le_of_ble_eq_true rfl)) dX10_feed_22 ⟨(Nat.le_of_ble_eq_true rfl), (Nat.le_of_ble_eq_true rfl)⟩) hP hD hS hA [0, 1] [] rfl rfl rfl (by decide) (fun u_7 H locs h_8 hP hD hS => ?_)
    obtain ⟨uf_9, rfl⟩ : ∃ z, z = u_7 := ⟨_, rfl⟩
    have hP : va_P g.1 vwCl [(oX10 x0 y0 (nI ((k + 4) + 4)) z0 p0 dr pa to_ s0 im ki tr v0 rf), (aB g y0 500 uf_9)] H := hP
    have hD : va_D A [(oX10 x0 y0 (nI ((k + 4) + 4)) z0 p0 dr pa to_ s0 im ki tr v0 rf), (aB g y0 500 uf_9)] := hD
    refine lv_aload_n hx hb dX10_feed_25 rfl (lv_at hl 0 rfl) ?_
    refine lv_iload_n hx hb dX10_feed_26 rfl (lv_at hl 3 rfl) ?_
    refine he_cv (wc := [(oX10 x0 y0 (nI ((k + 4) + 4)) z0 p0 dr pa to_ s0 im ki tr v0 rf), (aB g y0 500 uf_9)]) (wr := []) (va_runV (As := [.int v3]) (rest := []) ⟨hx, hb, hml, hown, hts⟩ (g_X10_put l g x0 y0 z0 p0 dr pa s0 im tr v0 rf ((k + 4) + 4) to_ ki uf_9 v3 (by first | assumption | decide | omega) H.size) (cwV 1 hts gX10_feed_X10_putOnTape rfl rfl rfl (by decide +kernel) ⟨Nat.le_of_ble_eq_true rfl, Nat.le_of_ble_eq_true rfl⟩) (he_preV (wc := [(oX10 x0 y0 (nI ((k + 4) + 4)) z0 p0 dr pa to_ s0 im ki tr v0 rf), (aB g y0 500 uf_9)]) hK hP hD hS hA hE [0, 1] rfl rfl 0 rfl rfl) rfl rfl hl.1 rfl (lv_room (Nat.le_of_ble_eq_true rfl)) dX10_feed_27 ⟨(Nat.le_of_ble_eq_true rfl), (Nat.le_of_ble_eq_true rfl)⟩) hP hD hS hA [0, 1] [] rfl rfl rfl (by decide) (fun u_11 H locs h_12 hP hD hS => ?_)
    obtain ⟨uf_13, rfl⟩ : ∃ z, z = u_11 := ⟨_, rfl⟩
    have hP : va_P g.1 vwCl [(oX10 x0 y0 (nI (((k + 4) + 4) + 4)) z0 p0 dr pa to_ s0 im ki tr v0 rf), (aB g y0 500 uf_13)] H := hP
    have hD : va_D A [(oX10 x0 y0 (nI (((k + 4) + 4) + 4)) z0 p0 dr pa to_ s0 im ki tr v0 rf), (aB g y0 500 uf_13)] := hD
    refine lv_aload_n hx hb dX10_feed_30 rfl (lv_at hl 0 rfl) ?_
    refine lv_iload hx hb dX10_feed_31 (lv_at hl 4 rfl) ?_
    refine he_cv (wc := [(oX10 x0 y0 (nI (((k + 4) + 4) + 4)) z0 p0 dr pa to_ s0 im ki tr v0 rf), (aB g y0 500 uf_13)]) (wr := []) (va_runV (As := [.int v4]) (rest := []) ⟨hx, hb, hml, hown, hts⟩ (g_X10_put l g x0 y0 z0 p0 dr pa s0 im tr v0 rf (((k + 4) + 4) + 4) to_ ki uf_13 v4 (by first | assumption | decide | omega) H.size) (cwV 1 hts gX10_feed_X10_putOnTape rfl rfl rfl (by decide +kernel) ⟨Nat.le_of_ble_eq_true rfl, Nat.le_of_ble_eq_true rfl⟩) (he_preV (wc := [(oX10 x0 y0 (nI (((k + 4) + 4) + 4)) z0 p0 dr pa to_ s0 im ki tr v0 rf), (aB g y0 500 uf_13)]) hK hP hD hS hA hE [0, 1] rfl rfl 0 rfl rfl) rfl rfl hl.1 rfl (lv_room (Nat.le_of_ble_eq_true rfl)) dX10_feed_33 ⟨(Nat.le_of_ble_eq_true rfl), (Nat.le_of_ble_eq_true rfl)⟩) hP hD hS hA [0, 1] [] rfl rfl rfl (by decide) (fun u_15 H locs h_16 hP hD hS => ?_)
    obtain ⟨uf_17, rfl⟩ : ∃ z, z = u_15 := ⟨_, rfl⟩
    have hP : va_P g.1 vwCl [(oX10 x0 y0 (nI ((((k + 4) + 4) + 4) + 4)) z0 p0 dr pa to_ s0 im ki tr v0 rf), (aB g y0 500 uf_17)] H := hP
    have hD : va_D A [(oX10 x0 y0 (nI ((((k + 4) + 4) + 4) + 4)) z0 p0 dr pa to_ s0 im ki tr v0 rf), (aB g y0 500 uf_17)] := hD
    refine lv_aload_n hx hb dX10_feed_36 rfl (lv_at hl 0 rfl) ?_
    refine lv_iload hx hb dX10_feed_37 (lv_at hl 5 rfl) ?_
    refine he_cv (wc := [(oX10 x0 y0 (nI ((((k + 4) + 4) + 4) + 4)) z0 p0 dr pa to_ s0 im ki tr v0 rf), (aB g y0 500 uf_17)]) (wr := []) (va_runV (As := [.int v5]) (rest := []) ⟨hx, hb, hml, hown, hts⟩ (g_X10_put l g x0 y0 z0 p0 dr pa s0 im tr v0 rf ((((k + 4) + 4) + 4) + 4) to_ ki uf_17 v5 (by first | assumption | decide | omega) H.size) (cwV 1 hts gX10_feed_X10_putOnTape rfl rfl rfl (by decide +kernel) ⟨Nat.le_of_ble_eq_true rfl, Nat.le_of_ble_eq_true rfl⟩) (he_preV (wc := [(oX10 x0 y0 (nI ((((k + 4) + 4) + 4) + 4)) z0 p0 dr pa to_ s0 im ki tr v0 rf), (aB g y0 500 uf_17)]) hK hP hD hS hA hE [0, 1] rfl rfl 0 rfl rfl) rfl rfl hl.1 rfl (lv_room (Nat.le_of_ble_eq_true rfl)) dX10_feed_39 ⟨(Nat.le_of_ble_eq_true rfl), (Nat.le_of_ble_eq_true rfl)⟩) hP hD hS hA [0, 1] [] rfl rfl rfl (by decide) (fun u_19 H locs h_20 hP hD hS => ?_)
    obtain ⟨uf_21, rfl⟩ : ∃ z, z = u_19 := ⟨_, rfl⟩
    have hP : va_P g.1 vwCl [(oX10 x0 y0 (nI (((((k + 4) + 4) + 4) + 4) + 4)) z0 p0 dr pa to_ s0 im ki tr v0 rf), (aB g y0 500 uf_21)] H := hP
    have hD : va_D A [(oX10 x0 y0 (nI (((((k + 4) + 4) + 4) + 4) + 4)) z0 p0 dr pa to_ s0 im ki tr v0 rf), (aB g y0 500 uf_21)] := hD
    refine lv_aload_n hx hb dX10_feed_42 rfl (lv_at hl 0 rfl) ?_
    refine va_get (v := .int (nI (((((k + 4) + 4) + 4) + 4) + 4))) (T := TX10) (N := 13) hx hb hts inX10 hown hK hP 0 rfl rfl 1 (by decide) f73 (fun _ h9 => h9) rfl dX10_feed_43 ?_
    exact he_ri hQ hx hb hr hlk hP hD hS dX10_feed_46 (Nat.le_of_ble_eq_true rfl) (Nat.le_of_ble_eq_true rfl) (uf_21) (rfl) (rfl)
  · exact absurd ((he_cle (a := k + 20) (b := 500) rfl (by decide) (by omega) (by decide)).mpr (by omega)) c_1
set_option maxHeartbeats 4000000 in
set_option maxRecDepth 100000 in
theorem g_X10_feedF (l : Launch) (g : he_G) (x0 : Nat) (y0 : Nat) (z0 : Nat) (p0 : Nat) (dr : Nat) (pa : Nat) (s0 : Nat) (im : Nat) (tr : Nat) (v0 : Nat) (rf : Nat) (k : Nat) (to_ : Int32) (ki : Int32) (v1 : Int32) (v2 : Int32) (v3 : Int32) (v4 : Int32) (v5 : Int32) (hk : k ≤ 500) (hk2 : 500 < k + 20) : he_I l yX10_feed wsX10_feed 0 0 0 0 g [.ref x0, .int v1, .int v2, .int v3, .int v4, .int v5] [(oX10 x0 y0 (nI k) z0 p0 dr pa to_ s0 im ki tr v0 rf)] (fun (r : Int32) (u : Unit) => r = (-1)) (fun (u : Unit) => [(oX10 x0 y0 (nI k) z0 p0 dr pa to_ s0 im ki tr v0 rf)]) := by
  refine he_begin (l := l) (g := g) (y := yX10_feed) (wl := wsX10_feed) (fr := 0) (lo := 0) (mc := 0) (ms := 0) (av := [.ref x0, .int v1, .int v2, .int v3, .int v4, .int v5]) (ws := [(oX10 x0 y0 (nI k) z0 p0 dr pa to_ s0 im ki tr v0 rf)]) (cc := cX10_feed) (maxL := 6) (ret := (some .int)) (fun A => va_Qi (fun (r : Int32) (u : Unit) => r = (-1)) (fun u t => he_post g A ((fun (u : Unit) => [(oX10 x0 y0 (nI k) z0 p0 dr pa to_ s0 im ki tr v0 rf)]) u) t) A) (by decide) rfl (Nat.le_of_ble_eq_true rfl) ?_
  intro p e s m args below meth c A ls H locs Q hQ hB
  obtain ⟨hx, hb, hr, hml, hown, hts, hlk, hin, hP, hK, hD, hS, hA, hE, hl⟩ := hB
  have hl : lv_has ls 6 [(0, .ref x0), (1, .int v1), (2, .int v2), (3, .int v3), (4, .int v4), (5, .int v5)] := hl
  have f73 := hts (.fieldLink RX10 73 "HiredEnemy" "taped" "I") (iwoX10_feed (k := 0) rfl)
  have inX10 : ∀ w ∈ wsX100, w ∈ wsX10_feed := innX10_feed_X10
  refine lv_aload_n hx hb dX10_feed_0 rfl (lv_at hl 0 rfl) ?_
  refine va_get (v := .int (nI k)) (T := TX10) (N := 13) hx hb hts inX10 hown hK hP 0 rfl rfl 1 (by decide) f73 (fun _ h9 => h9) rfl dX10_feed_1 ?_
  refine lv_bipush (v := 20) hx hb dX10_feed_4 (by decide) ?_
  refine lv_iadd hx hb dX10_feed_6 ?_
  refine he_top (nI (k + 20)) (nI_add k 20) ?_
  refine lv_sipush (v := 500) hx hb dX10_feed_7 (by decide) ?_
  refine lv_icmp_le (tgt := 15) hx hb dX10_feed_10 (by decide) (fun c_1 => ?_) (fun c_1 => ?_)
  · exact absurd c_1 (fun h9 => absurd ((he_cle (a := k + 20) (b := 500) rfl (by decide) (by omega) (by decide)).mp h9) (by omega))
  · refine lv_iconst (v := (-1)) hx hb dX10_feed_13 (by decide) ?_
    exact he_ri hQ hx hb hr hlk hP hD hS dX10_feed_14 (Nat.le_of_ble_eq_true rfl) (Nat.le_of_ble_eq_true rfl) (()) (rfl) (rfl)
set_option maxHeartbeats 4000000 in
set_option maxRecDepth 100000 in
theorem g_X10_fault (l : Launch) (g : he_G) (x0 : Nat) (y0 : Nat) (z0 : Nat) (p0 : Nat) (dr : Nat) (pa : Nat) (s0 : Nat) (im : Nat) (tr : Nat) (v0 : Nat) (rf : Nat) (ta : Int32) (to_ : Int32) (ki : Int32) (z1 : Nat) (y1 : Nat) (n1 : Int32) (at1 : Int32) (fa : Int32) (pl : Int32)  : he_I l yX10_fault wsX10_fault 0 0 0 0 g [.ref x0] [(oX10 x0 y0 ta z0 p0 dr pa to_ s0 im ki tr v0 rf), (oX7 z0 y1 n1 at1 fa pl z1)] (fun (r : Int32) (u : Unit) => r = pl) (fun (u : Unit) => [(oX10 x0 y0 ta z0 p0 dr pa to_ s0 im ki tr v0 rf), (oX7 z0 y1 n1 at1 fa pl z1)]) := by
  refine he_begin (l := l) (g := g) (y := yX10_fault) (wl := wsX10_fault) (fr := 0) (lo := 0) (mc := 0) (ms := 0) (av := [.ref x0]) (ws := [(oX10 x0 y0 ta z0 p0 dr pa to_ s0 im ki tr v0 rf), (oX7 z0 y1 n1 at1 fa pl z1)]) (cc := cX10_fault) (maxL := 1) (ret := (some .int)) (fun A => va_Qi (fun (r : Int32) (u : Unit) => r = pl) (fun u t => he_post g A ((fun (u : Unit) => [(oX10 x0 y0 ta z0 p0 dr pa to_ s0 im ki tr v0 rf), (oX7 z0 y1 n1 at1 fa pl z1)]) u) t) A) (by decide) rfl (Nat.le_of_ble_eq_true rfl) ?_
  intro p e s m args below meth c A ls H locs Q hQ hB
  obtain ⟨hx, hb, hr, hml, hown, hts, hlk, hin, hP, hK, hD, hS, hA, hE, hl⟩ := hB
  have hl : lv_has ls 1 [(0, .ref x0)] := hl
  have f16 := hts (.fieldLink RX10 16 "HiredEnemy" "reader" "LHiredEnemy$Reader;") (iwoX10_fault (k := 0) rfl)
  have inX10 : ∀ w ∈ wsX100, w ∈ wsX10_fault := innX10_fault_X10
  have f102 := hts (.fieldLink RX10 102 "HiredEnemy$Reader" "place" "I") (iwoX10_fault (k := 1) rfl)
  have inX7 : ∀ w ∈ wsX70, w ∈ wsX10_fault := innX10_fault_X7
  refine lv_aload_n hx hb dX10_fault_0 rfl (lv_at hl 0 rfl) ?_
  refine va_get (v := .ref z0) (T := TX10) (N := 13) hx hb hts inX10 hown hK hP 0 rfl rfl 2 (by decide) f16 (fun _ h9 => h9) rfl dX10_fault_1 ?_
  refine va_get (v := .int pl) (T := TX7) (N := 6) hx hb hts inX7 hown hK hP 1 rfl rfl 4 (by decide) f102 (fun _ h9 => h9) rfl dX10_fault_4 ?_
  exact he_ri hQ hx hb hr hlk hP hD hS dX10_fault_7 (Nat.le_of_ble_eq_true rfl) (Nat.le_of_ble_eq_true rfl) (()) (rfl) (rfl)
set_option maxHeartbeats 4000000 in
set_option maxRecDepth 100000 in
theorem g_X10_told0 (l : Launch) (g : he_G) (x0 : Nat) (y0 : Nat) (z0 : Nat) (dr : Nat) (pa : Nat) (s0 : Nat) (im : Nat) (tr : Nat) (v0 : Nat) (rf : Nat) (ta : Int32) (to_ : Int32) (ki : Int32) (p0 : Nat) (p1 : Nat) (p2 : Nat) (p3 : Nat) (p4 : Nat) (w : Int32) (a0 : Nat) (b0 : Nat) (e0 : Nat) (h0 : Nat) (q0 : Nat) (q1 : Nat) (mo : Int32) (f : Nat → Int32)  : he_I l yX10_told wsX10_told 1 22 0 0 g [.ref x0, .int 0] [(oX10 x0 y0 ta z0 p0 dr pa to_ s0 im ki tr v0 rf), (oX6 p0 p1 p2 p3 p4 w), (oX8 s0 h0 a0 b0 e0), (oX4 h0 q0 q1 mo), (aI g q0 24 f)] (fun (r : Int32) (u : Unit) => True) (fun (u : Unit) => [(oX10 x0 y0 ta z0 p0 dr pa to_ s0 im ki tr v0 rf), (oX6 p0 p1 p2 p3 p4 w), (oX8 s0 h0 a0 b0 e0), (oX4 h0 q0 q1 mo), (aI g q0 24 f)]) := by
  refine he_begin (l := l) (g := g) (y := yX10_told) (wl := wsX10_told) (fr := 1) (lo := 22) (mc := 0) (ms := 0) (av := [.ref x0, .int 0]) (ws := [(oX10 x0 y0 ta z0 p0 dr pa to_ s0 im ki tr v0 rf), (oX6 p0 p1 p2 p3 p4 w), (oX8 s0 h0 a0 b0 e0), (oX4 h0 q0 q1 mo), (aI g q0 24 f)]) (cc := cX10_told) (maxL := 4) (ret := (some .int)) (fun A => va_Qi (fun (r : Int32) (u : Unit) => True) (fun u t => he_post g A ((fun (u : Unit) => [(oX10 x0 y0 ta z0 p0 dr pa to_ s0 im ki tr v0 rf), (oX6 p0 p1 p2 p3 p4 w), (oX8 s0 h0 a0 b0 e0), (oX4 h0 q0 q1 mo), (aI g q0 24 f)]) u) t) A) (by decide) rfl (Nat.le_of_ble_eq_true rfl) ?_
  intro p e s m args below meth c A ls H locs Q hQ hB
  obtain ⟨hx, hb, hr, hml, hown, hts, hlk, hin, hP, hK, hD, hS, hA, hE, hl⟩ := hB
  have hl : lv_has ls 4 [(0, .ref x0), (1, .int 0)] := hl
  have f39 := hts (.fieldLink RX10 39 "HiredEnemy" "scene" "LHiredEnemy$Scene;") (iwoX10_told (k := 0) rfl)
  have inX10 : ∀ w ∈ wsX100, w ∈ wsX10_told := innX10_told_X10
  have f66 := hts (.fieldLink RX10 66 "HiredEnemy$Scene" "course" "LHiredEnemy$Course;") (iwoX10_told (k := 1) rfl)
  have inX8 : ∀ w ∈ wsX80, w ∈ wsX10_told := innX10_told_X8
  have f111 := hts (.fieldLink RX10 111 "HiredEnemy$Course" "now" "[I") (iwoX10_told (k := 2) rfl)
  have inX4 : ∀ w ∈ wsX40, w ∈ wsX10_told := innX10_told_X4
  have f23 := hts (.fieldLink RX10 23 "HiredEnemy" "plan" "LHiredEnemy$Plan;") (iwoX10_told (k := 3) rfl)
  have f99 := hts (.fieldLink RX10 99 "HiredEnemy$Plan" "walls" "I") (iwoX10_told (k := 4) rfl)
  have inX6 : ∀ w ∈ wsX60, w ∈ wsX10_told := innX10_told_X6
  refine lv_aload_n hx hb dX10_told_0 rfl (lv_at hl 0 rfl) ?_
  refine lv_iload_n hx hb dX10_told_1 rfl (lv_at hl 1 rfl) ?_
  refine lv_iconst (v := 0) hx hb dX10_told_2 (by decide) ?_
  refine lv_iconst (v := 4) hx hb dX10_told_3 (by decide) ?_
  refine he_ci (wc := []) (wr := [(oX10 x0 y0 ta z0 p0 dr pa to_ s0 im ki tr v0 rf), (oX6 p0 p1 p2 p3 p4 w), (oX8 s0 h0 a0 b0 e0), (oX4 h0 q0 q1 mo), (aI g q0 24 f)]) (va_runS (As := [.int 0, .int 0, .int 4]) (rest := [.ref x0]) ⟨hx, hb, hml, hown, hts⟩ (c_X10_within l g 0 0 4 H.size) (va_cwS 3 hts gX10_told_X10_within rfl rfl rfl (by decide +kernel) ⟨Nat.le_of_ble_eq_true rfl, Nat.le_of_ble_eq_true rfl⟩) (he_preS (wc := []) hK hP hD hS hA hE [] rfl rfl) rfl rfl hl.1 rfl (lv_room (Nat.le_of_ble_eq_true rfl)) dX10_told_4 ⟨(Nat.le_of_ble_eq_true rfl), (Nat.le_of_ble_eq_true rfl)⟩) hP hD hS hA [] [0, 1, 2, 3, 4] rfl rfl rfl (by decide) (fun r_1 u_2 H locs h_3 hP hD hS => ?_)
  subst h_3
  have hP : va_P g.1 vwCl [(oX10 x0 y0 ta z0 p0 dr pa to_ s0 im ki tr v0 rf), (oX6 p0 p1 p2 p3 p4 w), (oX8 s0 h0 a0 b0 e0), (oX4 h0 q0 q1 mo), (aI g q0 24 f)] H := hP
  have hD : va_D A [(oX10 x0 y0 ta z0 p0 dr pa to_ s0 im ki tr v0 rf), (oX6 p0 p1 p2 p3 p4 w), (oX8 s0 h0 a0 b0 e0), (oX4 h0 q0 q1 mo), (aI g q0 24 f)] := hD
  refine he_top (1) (by decide) ?_
  refine he_cv (wc := []) (wr := [(oX10 x0 y0 ta z0 p0 dr pa to_ s0 im ki tr v0 rf), (oX6 p0 p1 p2 p3 p4 w), (oX8 s0 h0 a0 b0 e0), (oX4 h0 q0 q1 mo), (aI g q0 24 f)]) (va_runV (As := [.int 1]) (rest := []) ⟨hx, hb, hml, hown, hts⟩ (c_X10_demand1 l g x0 H.size) (cwV 1 hts gX10_told_X10_demand rfl rfl rfl (by decide +kernel) ⟨Nat.le_of_ble_eq_true rfl, Nat.le_of_ble_eq_true rfl⟩) (he_preV (wc := []) hK hP hD hS hA hE [] rfl rfl 0 rfl rfl) rfl rfl hl.1 rfl (lv_room (Nat.le_of_ble_eq_true rfl)) dX10_told_7 ⟨(Nat.le_of_ble_eq_true rfl), (Nat.le_of_ble_eq_true rfl)⟩) hP hD hS hA [] [0, 1, 2, 3, 4] rfl rfl rfl (by decide) (fun u_5 H locs h_6 hP hD hS => ?_)
  have hP : va_P g.1 vwCl [(oX10 x0 y0 ta z0 p0 dr pa to_ s0 im ki tr v0 rf), (oX6 p0 p1 p2 p3 p4 w), (oX8 s0 h0 a0 b0 e0), (oX4 h0 q0 q1 mo), (aI g q0 24 f)] H := hP
  have hD : va_D A [(oX10 x0 y0 ta z0 p0 dr pa to_ s0 im ki tr v0 rf), (oX6 p0 p1 p2 p3 p4 w), (oX8 s0 h0 a0 b0 e0), (oX4 h0 q0 q1 mo), (aI g q0 24 f)] := hD
  refine lv_aload_n hx hb dX10_told_10 rfl (lv_at hl 0 rfl) ?_
  refine va_get (v := .ref s0) (T := TX10) (N := 13) hx hb hts inX10 hown hK hP 0 rfl rfl 7 (by decide) f39 (fun _ h9 => h9) rfl dX10_told_11 ?_
  refine va_get (v := .ref h0) (T := TX8) (N := 4) hx hb hts inX8 hown hK hP 2 rfl rfl 0 (by decide) f66 (fun _ h9 => h9) rfl dX10_told_14 ?_
  refine lv_astore_n (lv' := [(2, .ref h0), (0, .ref x0), (1, .int 0)]) hx hb dX10_told_17 rfl hl (by decide) rfl (fun ls hl => ?_)
  refine lv_aload_n hx hb dX10_told_18 rfl (lv_at hl 0 rfl) ?_
  refine va_get (v := .ref q0) (T := TX4) (N := 3) hx hb hts inX4 hown hK hP 3 rfl rfl 0 (by decide) f111 (fun _ h9 => h9) rfl dX10_told_19 ?_
  refine lv_bipush (v := 10) hx hb dX10_told_22 (by decide) ?_
  refine he_iald hx hb hK hP 4 rfl (10) (by decide) (by decide) (by first | decide | assumption) (f 10) rfl dX10_told_24 ?_
  refine lv_istore_n (lv' := [(3, .int (f 10)), (2, .ref h0), (0, .ref x0), (1, .int 0)]) hx hb dX10_told_25 rfl hl (by decide) rfl (fun ls hl => ?_)
  refine lv_iload_n hx hb dX10_told_26 rfl (lv_at hl 3 rfl) ?_
  refine lv_tableIn (tgt := 56) hx hb dX10_told_27 (by decide) (by decide) rfl (by decide) ?_
  refine lv_aload_n hx hb dX10_told_56 rfl (lv_at hl 2 rfl) ?_
  refine va_get (v := .ref p0) (T := TX10) (N := 13) hx hb hts inX10 hown hK hP 0 rfl rfl 3 (by decide) f23 (fun _ h9 => h9) rfl dX10_told_57 ?_
  refine va_get (v := .int w) (T := TX6) (N := 5) hx hb hts inX6 hown hK hP 1 rfl rfl 4 (by decide) f99 (fun _ h9 => h9) rfl dX10_told_60 ?_
  exact he_ri hQ hx hb hr hlk hP hD hS dX10_told_63 (Nat.le_of_ble_eq_true rfl) (Nat.le_of_ble_eq_true rfl) (()) (rfl) (trivial)
set_option maxHeartbeats 4000000 in
set_option maxRecDepth 100000 in
theorem g_X10_told1 (l : Launch) (g : he_G) (x0 : Nat) (y0 : Nat) (z0 : Nat) (dr : Nat) (pa : Nat) (s0 : Nat) (im : Nat) (tr : Nat) (v0 : Nat) (rf : Nat) (ta : Int32) (to_ : Int32) (ki : Int32) (p0 : Nat) (p1 : Nat) (p2 : Nat) (p3 : Nat) (p4 : Nat) (w : Int32) (a0 : Nat) (b0 : Nat) (e0 : Nat) (h0 : Nat) (q0 : Nat) (q1 : Nat) (mo : Int32) (f : Nat → Int32)  : he_I l yX10_told wsX10_told 1 22 0 0 g [.ref x0, .int 1] [(oX10 x0 y0 ta z0 p0 dr pa to_ s0 im ki tr v0 rf), (oX6 p0 p1 p2 p3 p4 w), (oX8 s0 h0 a0 b0 e0), (oX4 h0 q0 q1 mo), (aI g q0 24 f)] (fun (r : Int32) (u : Unit) => True) (fun (u : Unit) => [(oX10 x0 y0 ta z0 p0 dr pa to_ s0 im ki tr v0 rf), (oX6 p0 p1 p2 p3 p4 w), (oX8 s0 h0 a0 b0 e0), (oX4 h0 q0 q1 mo), (aI g q0 24 f)]) := by
  refine he_begin (l := l) (g := g) (y := yX10_told) (wl := wsX10_told) (fr := 1) (lo := 22) (mc := 0) (ms := 0) (av := [.ref x0, .int 1]) (ws := [(oX10 x0 y0 ta z0 p0 dr pa to_ s0 im ki tr v0 rf), (oX6 p0 p1 p2 p3 p4 w), (oX8 s0 h0 a0 b0 e0), (oX4 h0 q0 q1 mo), (aI g q0 24 f)]) (cc := cX10_told) (maxL := 4) (ret := (some .int)) (fun A => va_Qi (fun (r : Int32) (u : Unit) => True) (fun u t => he_post g A ((fun (u : Unit) => [(oX10 x0 y0 ta z0 p0 dr pa to_ s0 im ki tr v0 rf), (oX6 p0 p1 p2 p3 p4 w), (oX8 s0 h0 a0 b0 e0), (oX4 h0 q0 q1 mo), (aI g q0 24 f)]) u) t) A) (by decide) rfl (Nat.le_of_ble_eq_true rfl) ?_
  intro p e s m args below meth c A ls H locs Q hQ hB
  obtain ⟨hx, hb, hr, hml, hown, hts, hlk, hin, hP, hK, hD, hS, hA, hE, hl⟩ := hB
  have hl : lv_has ls 4 [(0, .ref x0), (1, .int 1)] := hl
  have f39 := hts (.fieldLink RX10 39 "HiredEnemy" "scene" "LHiredEnemy$Scene;") (iwoX10_told (k := 0) rfl)
  have inX10 : ∀ w ∈ wsX100, w ∈ wsX10_told := innX10_told_X10
  have f66 := hts (.fieldLink RX10 66 "HiredEnemy$Scene" "course" "LHiredEnemy$Course;") (iwoX10_told (k := 1) rfl)
  have inX8 : ∀ w ∈ wsX80, w ∈ wsX10_told := innX10_told_X8
  have f111 := hts (.fieldLink RX10 111 "HiredEnemy$Course" "now" "[I") (iwoX10_told (k := 2) rfl)
  have inX4 : ∀ w ∈ wsX40, w ∈ wsX10_told := innX10_told_X4
  have f92 := hts (.fieldLink RX10 92 "HiredEnemy" "pactsTold" "I") (iwoX10_told (k := 5) rfl)
  refine lv_aload_n hx hb dX10_told_0 rfl (lv_at hl 0 rfl) ?_
  refine lv_iload_n hx hb dX10_told_1 rfl (lv_at hl 1 rfl) ?_
  refine lv_iconst (v := 0) hx hb dX10_told_2 (by decide) ?_
  refine lv_iconst (v := 4) hx hb dX10_told_3 (by decide) ?_
  refine he_ci (wc := []) (wr := [(oX10 x0 y0 ta z0 p0 dr pa to_ s0 im ki tr v0 rf), (oX6 p0 p1 p2 p3 p4 w), (oX8 s0 h0 a0 b0 e0), (oX4 h0 q0 q1 mo), (aI g q0 24 f)]) (va_runS (As := [.int 1, .int 0, .int 4]) (rest := [.ref x0]) ⟨hx, hb, hml, hown, hts⟩ (c_X10_within l g 1 0 4 H.size) (va_cwS 3 hts gX10_told_X10_within rfl rfl rfl (by decide +kernel) ⟨Nat.le_of_ble_eq_true rfl, Nat.le_of_ble_eq_true rfl⟩) (he_preS (wc := []) hK hP hD hS hA hE [] rfl rfl) rfl rfl hl.1 rfl (lv_room (Nat.le_of_ble_eq_true rfl)) dX10_told_4 ⟨(Nat.le_of_ble_eq_true rfl), (Nat.le_of_ble_eq_true rfl)⟩) hP hD hS hA [] [0, 1, 2, 3, 4] rfl rfl rfl (by decide) (fun r_1 u_2 H locs h_3 hP hD hS => ?_)
  subst h_3
  have hP : va_P g.1 vwCl [(oX10 x0 y0 ta z0 p0 dr pa to_ s0 im ki tr v0 rf), (oX6 p0 p1 p2 p3 p4 w), (oX8 s0 h0 a0 b0 e0), (oX4 h0 q0 q1 mo), (aI g q0 24 f)] H := hP
  have hD : va_D A [(oX10 x0 y0 ta z0 p0 dr pa to_ s0 im ki tr v0 rf), (oX6 p0 p1 p2 p3 p4 w), (oX8 s0 h0 a0 b0 e0), (oX4 h0 q0 q1 mo), (aI g q0 24 f)] := hD
  refine he_top (1) (by decide) ?_
  refine he_cv (wc := []) (wr := [(oX10 x0 y0 ta z0 p0 dr pa to_ s0 im ki tr v0 rf), (oX6 p0 p1 p2 p3 p4 w), (oX8 s0 h0 a0 b0 e0), (oX4 h0 q0 q1 mo), (aI g q0 24 f)]) (va_runV (As := [.int 1]) (rest := []) ⟨hx, hb, hml, hown, hts⟩ (c_X10_demand1 l g x0 H.size) (cwV 1 hts gX10_told_X10_demand rfl rfl rfl (by decide +kernel) ⟨Nat.le_of_ble_eq_true rfl, Nat.le_of_ble_eq_true rfl⟩) (he_preV (wc := []) hK hP hD hS hA hE [] rfl rfl 0 rfl rfl) rfl rfl hl.1 rfl (lv_room (Nat.le_of_ble_eq_true rfl)) dX10_told_7 ⟨(Nat.le_of_ble_eq_true rfl), (Nat.le_of_ble_eq_true rfl)⟩) hP hD hS hA [] [0, 1, 2, 3, 4] rfl rfl rfl (by decide) (fun u_5 H locs h_6 hP hD hS => ?_)
  have hP : va_P g.1 vwCl [(oX10 x0 y0 ta z0 p0 dr pa to_ s0 im ki tr v0 rf), (oX6 p0 p1 p2 p3 p4 w), (oX8 s0 h0 a0 b0 e0), (oX4 h0 q0 q1 mo), (aI g q0 24 f)] H := hP
  have hD : va_D A [(oX10 x0 y0 ta z0 p0 dr pa to_ s0 im ki tr v0 rf), (oX6 p0 p1 p2 p3 p4 w), (oX8 s0 h0 a0 b0 e0), (oX4 h0 q0 q1 mo), (aI g q0 24 f)] := hD
  refine lv_aload_n hx hb dX10_told_10 rfl (lv_at hl 0 rfl) ?_
  refine va_get (v := .ref s0) (T := TX10) (N := 13) hx hb hts inX10 hown hK hP 0 rfl rfl 7 (by decide) f39 (fun _ h9 => h9) rfl dX10_told_11 ?_
  refine va_get (v := .ref h0) (T := TX8) (N := 4) hx hb hts inX8 hown hK hP 2 rfl rfl 0 (by decide) f66 (fun _ h9 => h9) rfl dX10_told_14 ?_
  refine lv_astore_n (lv' := [(2, .ref h0), (0, .ref x0), (1, .int 1)]) hx hb dX10_told_17 rfl hl (by decide) rfl (fun ls hl => ?_)
  refine lv_aload_n hx hb dX10_told_18 rfl (lv_at hl 0 rfl) ?_
  refine va_get (v := .ref q0) (T := TX4) (N := 3) hx hb hts inX4 hown hK hP 3 rfl rfl 0 (by decide) f111 (fun _ h9 => h9) rfl dX10_told_19 ?_
  refine lv_bipush (v := 10) hx hb dX10_told_22 (by decide) ?_
  refine he_iald hx hb hK hP 4 rfl (10) (by decide) (by decide) (by first | decide | assumption) (f 10) rfl dX10_told_24 ?_
  refine lv_istore_n (lv' := [(3, .int (f 10)), (2, .ref h0), (0, .ref x0), (1, .int 1)]) hx hb dX10_told_25 rfl hl (by decide) rfl (fun ls hl => ?_)
  refine lv_iload_n hx hb dX10_told_26 rfl (lv_at hl 3 rfl) ?_
  refine lv_tableIn (tgt := 64) hx hb dX10_told_27 (by decide) (by decide) rfl (by decide) ?_
  refine lv_aload_n hx hb dX10_told_64 rfl (lv_at hl 2 rfl) ?_
  refine va_get (v := .int to_) (T := TX10) (N := 13) hx hb hts inX10 hown hK hP 0 rfl rfl 6 (by decide) f92 (fun _ h9 => h9) rfl dX10_told_65 ?_
  exact he_ri hQ hx hb hr hlk hP hD hS dX10_told_68 (Nat.le_of_ble_eq_true rfl) (Nat.le_of_ble_eq_true rfl) (()) (rfl) (trivial)
set_option maxHeartbeats 4000000 in
set_option maxRecDepth 100000 in
theorem g_X10_told2 (l : Launch) (g : he_G) (x0 : Nat) (y0 : Nat) (z0 : Nat) (dr : Nat) (pa : Nat) (s0 : Nat) (im : Nat) (tr : Nat) (v0 : Nat) (rf : Nat) (ta : Int32) (to_ : Int32) (ki : Int32) (p0 : Nat) (p1 : Nat) (p2 : Nat) (p3 : Nat) (p4 : Nat) (w : Int32) (a0 : Nat) (b0 : Nat) (e0 : Nat) (h0 : Nat) (q0 : Nat) (q1 : Nat) (mo : Int32) (f : Nat → Int32)  : he_I l yX10_told wsX10_told 1 22 0 0 g [.ref x0, .int 2] [(oX10 x0 y0 ta z0 p0 dr pa to_ s0 im ki tr v0 rf), (oX6 p0 p1 p2 p3 p4 w), (oX8 s0 h0 a0 b0 e0), (oX4 h0 q0 q1 mo), (aI g q0 24 f)] (fun (r : Int32) (u : Unit) => True) (fun (u : Unit) => [(oX10 x0 y0 ta z0 p0 dr pa to_ s0 im ki tr v0 rf), (oX6 p0 p1 p2 p3 p4 w), (oX8 s0 h0 a0 b0 e0), (oX4 h0 q0 q1 mo), (aI g q0 24 f)]) := by
  refine he_begin (l := l) (g := g) (y := yX10_told) (wl := wsX10_told) (fr := 1) (lo := 22) (mc := 0) (ms := 0) (av := [.ref x0, .int 2]) (ws := [(oX10 x0 y0 ta z0 p0 dr pa to_ s0 im ki tr v0 rf), (oX6 p0 p1 p2 p3 p4 w), (oX8 s0 h0 a0 b0 e0), (oX4 h0 q0 q1 mo), (aI g q0 24 f)]) (cc := cX10_told) (maxL := 4) (ret := (some .int)) (fun A => va_Qi (fun (r : Int32) (u : Unit) => True) (fun u t => he_post g A ((fun (u : Unit) => [(oX10 x0 y0 ta z0 p0 dr pa to_ s0 im ki tr v0 rf), (oX6 p0 p1 p2 p3 p4 w), (oX8 s0 h0 a0 b0 e0), (oX4 h0 q0 q1 mo), (aI g q0 24 f)]) u) t) A) (by decide) rfl (Nat.le_of_ble_eq_true rfl) ?_
  intro p e s m args below meth c A ls H locs Q hQ hB
  obtain ⟨hx, hb, hr, hml, hown, hts, hlk, hin, hP, hK, hD, hS, hA, hE, hl⟩ := hB
  have hl : lv_has ls 4 [(0, .ref x0), (1, .int 2)] := hl
  have f39 := hts (.fieldLink RX10 39 "HiredEnemy" "scene" "LHiredEnemy$Scene;") (iwoX10_told (k := 0) rfl)
  have inX10 : ∀ w ∈ wsX100, w ∈ wsX10_told := innX10_told_X10
  have f66 := hts (.fieldLink RX10 66 "HiredEnemy$Scene" "course" "LHiredEnemy$Course;") (iwoX10_told (k := 1) rfl)
  have inX8 : ∀ w ∈ wsX80, w ∈ wsX10_told := innX10_told_X8
  have f111 := hts (.fieldLink RX10 111 "HiredEnemy$Course" "now" "[I") (iwoX10_told (k := 2) rfl)
  have inX4 : ∀ w ∈ wsX40, w ∈ wsX10_told := innX10_told_X4
  have f114 := hts (.fieldLink RX10 114 "HiredEnemy$Course" "month" "I") (iwoX10_told (k := 6) rfl)
  refine lv_aload_n hx hb dX10_told_0 rfl (lv_at hl 0 rfl) ?_
  refine lv_iload_n hx hb dX10_told_1 rfl (lv_at hl 1 rfl) ?_
  refine lv_iconst (v := 0) hx hb dX10_told_2 (by decide) ?_
  refine lv_iconst (v := 4) hx hb dX10_told_3 (by decide) ?_
  refine he_ci (wc := []) (wr := [(oX10 x0 y0 ta z0 p0 dr pa to_ s0 im ki tr v0 rf), (oX6 p0 p1 p2 p3 p4 w), (oX8 s0 h0 a0 b0 e0), (oX4 h0 q0 q1 mo), (aI g q0 24 f)]) (va_runS (As := [.int 2, .int 0, .int 4]) (rest := [.ref x0]) ⟨hx, hb, hml, hown, hts⟩ (c_X10_within l g 2 0 4 H.size) (va_cwS 3 hts gX10_told_X10_within rfl rfl rfl (by decide +kernel) ⟨Nat.le_of_ble_eq_true rfl, Nat.le_of_ble_eq_true rfl⟩) (he_preS (wc := []) hK hP hD hS hA hE [] rfl rfl) rfl rfl hl.1 rfl (lv_room (Nat.le_of_ble_eq_true rfl)) dX10_told_4 ⟨(Nat.le_of_ble_eq_true rfl), (Nat.le_of_ble_eq_true rfl)⟩) hP hD hS hA [] [0, 1, 2, 3, 4] rfl rfl rfl (by decide) (fun r_1 u_2 H locs h_3 hP hD hS => ?_)
  subst h_3
  have hP : va_P g.1 vwCl [(oX10 x0 y0 ta z0 p0 dr pa to_ s0 im ki tr v0 rf), (oX6 p0 p1 p2 p3 p4 w), (oX8 s0 h0 a0 b0 e0), (oX4 h0 q0 q1 mo), (aI g q0 24 f)] H := hP
  have hD : va_D A [(oX10 x0 y0 ta z0 p0 dr pa to_ s0 im ki tr v0 rf), (oX6 p0 p1 p2 p3 p4 w), (oX8 s0 h0 a0 b0 e0), (oX4 h0 q0 q1 mo), (aI g q0 24 f)] := hD
  refine he_top (1) (by decide) ?_
  refine he_cv (wc := []) (wr := [(oX10 x0 y0 ta z0 p0 dr pa to_ s0 im ki tr v0 rf), (oX6 p0 p1 p2 p3 p4 w), (oX8 s0 h0 a0 b0 e0), (oX4 h0 q0 q1 mo), (aI g q0 24 f)]) (va_runV (As := [.int 1]) (rest := []) ⟨hx, hb, hml, hown, hts⟩ (c_X10_demand1 l g x0 H.size) (cwV 1 hts gX10_told_X10_demand rfl rfl rfl (by decide +kernel) ⟨Nat.le_of_ble_eq_true rfl, Nat.le_of_ble_eq_true rfl⟩) (he_preV (wc := []) hK hP hD hS hA hE [] rfl rfl 0 rfl rfl) rfl rfl hl.1 rfl (lv_room (Nat.le_of_ble_eq_true rfl)) dX10_told_7 ⟨(Nat.le_of_ble_eq_true rfl), (Nat.le_of_ble_eq_true rfl)⟩) hP hD hS hA [] [0, 1, 2, 3, 4] rfl rfl rfl (by decide) (fun u_5 H locs h_6 hP hD hS => ?_)
  have hP : va_P g.1 vwCl [(oX10 x0 y0 ta z0 p0 dr pa to_ s0 im ki tr v0 rf), (oX6 p0 p1 p2 p3 p4 w), (oX8 s0 h0 a0 b0 e0), (oX4 h0 q0 q1 mo), (aI g q0 24 f)] H := hP
  have hD : va_D A [(oX10 x0 y0 ta z0 p0 dr pa to_ s0 im ki tr v0 rf), (oX6 p0 p1 p2 p3 p4 w), (oX8 s0 h0 a0 b0 e0), (oX4 h0 q0 q1 mo), (aI g q0 24 f)] := hD
  refine lv_aload_n hx hb dX10_told_10 rfl (lv_at hl 0 rfl) ?_
  refine va_get (v := .ref s0) (T := TX10) (N := 13) hx hb hts inX10 hown hK hP 0 rfl rfl 7 (by decide) f39 (fun _ h9 => h9) rfl dX10_told_11 ?_
  refine va_get (v := .ref h0) (T := TX8) (N := 4) hx hb hts inX8 hown hK hP 2 rfl rfl 0 (by decide) f66 (fun _ h9 => h9) rfl dX10_told_14 ?_
  refine lv_astore_n (lv' := [(2, .ref h0), (0, .ref x0), (1, .int 2)]) hx hb dX10_told_17 rfl hl (by decide) rfl (fun ls hl => ?_)
  refine lv_aload_n hx hb dX10_told_18 rfl (lv_at hl 0 rfl) ?_
  refine va_get (v := .ref q0) (T := TX4) (N := 3) hx hb hts inX4 hown hK hP 3 rfl rfl 0 (by decide) f111 (fun _ h9 => h9) rfl dX10_told_19 ?_
  refine lv_bipush (v := 10) hx hb dX10_told_22 (by decide) ?_
  refine he_iald hx hb hK hP 4 rfl (10) (by decide) (by decide) (by first | decide | assumption) (f 10) rfl dX10_told_24 ?_
  refine lv_istore_n (lv' := [(3, .int (f 10)), (2, .ref h0), (0, .ref x0), (1, .int 2)]) hx hb dX10_told_25 rfl hl (by decide) rfl (fun ls hl => ?_)
  refine lv_iload_n hx hb dX10_told_26 rfl (lv_at hl 3 rfl) ?_
  refine lv_tableIn (tgt := 69) hx hb dX10_told_27 (by decide) (by decide) rfl (by decide) ?_
  refine lv_aload_n hx hb dX10_told_69 rfl (lv_at hl 1 rfl) ?_
  refine va_get (v := .int mo) (T := TX4) (N := 3) hx hb hts inX4 hown hK hP 3 rfl rfl 2 (by decide) f114 (fun _ h9 => h9) rfl dX10_told_70 ?_
  exact he_ri hQ hx hb hr hlk hP hD hS dX10_told_73 (Nat.le_of_ble_eq_true rfl) (Nat.le_of_ble_eq_true rfl) (()) (rfl) (trivial)
set_option maxHeartbeats 4000000 in
set_option maxRecDepth 100000 in
theorem g_X10_told3 (l : Launch) (g : he_G) (x0 : Nat) (y0 : Nat) (z0 : Nat) (dr : Nat) (pa : Nat) (s0 : Nat) (im : Nat) (tr : Nat) (v0 : Nat) (rf : Nat) (ta : Int32) (to_ : Int32) (ki : Int32) (p0 : Nat) (p1 : Nat) (p2 : Nat) (p3 : Nat) (p4 : Nat) (w : Int32) (a0 : Nat) (b0 : Nat) (e0 : Nat) (h0 : Nat) (q0 : Nat) (q1 : Nat) (mo : Int32) (f : Nat → Int32)  : he_I l yX10_told wsX10_told 1 22 0 0 g [.ref x0, .int 3] [(oX10 x0 y0 ta z0 p0 dr pa to_ s0 im ki tr v0 rf), (oX6 p0 p1 p2 p3 p4 w), (oX8 s0 h0 a0 b0 e0), (oX4 h0 q0 q1 mo), (aI g q0 24 f)] (fun (r : Int32) (u : Unit) => True) (fun (u : Unit) => [(oX10 x0 y0 ta z0 p0 dr pa to_ s0 im ki tr v0 rf), (oX6 p0 p1 p2 p3 p4 w), (oX8 s0 h0 a0 b0 e0), (oX4 h0 q0 q1 mo), (aI g q0 24 f)]) := by
  refine he_begin (l := l) (g := g) (y := yX10_told) (wl := wsX10_told) (fr := 1) (lo := 22) (mc := 0) (ms := 0) (av := [.ref x0, .int 3]) (ws := [(oX10 x0 y0 ta z0 p0 dr pa to_ s0 im ki tr v0 rf), (oX6 p0 p1 p2 p3 p4 w), (oX8 s0 h0 a0 b0 e0), (oX4 h0 q0 q1 mo), (aI g q0 24 f)]) (cc := cX10_told) (maxL := 4) (ret := (some .int)) (fun A => va_Qi (fun (r : Int32) (u : Unit) => True) (fun u t => he_post g A ((fun (u : Unit) => [(oX10 x0 y0 ta z0 p0 dr pa to_ s0 im ki tr v0 rf), (oX6 p0 p1 p2 p3 p4 w), (oX8 s0 h0 a0 b0 e0), (oX4 h0 q0 q1 mo), (aI g q0 24 f)]) u) t) A) (by decide) rfl (Nat.le_of_ble_eq_true rfl) ?_
  intro p e s m args below meth c A ls H locs Q hQ hB
  obtain ⟨hx, hb, hr, hml, hown, hts, hlk, hin, hP, hK, hD, hS, hA, hE, hl⟩ := hB
  have hl : lv_has ls 4 [(0, .ref x0), (1, .int 3)] := hl
  have f39 := hts (.fieldLink RX10 39 "HiredEnemy" "scene" "LHiredEnemy$Scene;") (iwoX10_told (k := 0) rfl)
  have inX10 : ∀ w ∈ wsX100, w ∈ wsX10_told := innX10_told_X10
  have f66 := hts (.fieldLink RX10 66 "HiredEnemy$Scene" "course" "LHiredEnemy$Course;") (iwoX10_told (k := 1) rfl)
  have inX8 : ∀ w ∈ wsX80, w ∈ wsX10_told := innX10_told_X8
  have f111 := hts (.fieldLink RX10 111 "HiredEnemy$Course" "now" "[I") (iwoX10_told (k := 2) rfl)
  have inX4 : ∀ w ∈ wsX40, w ∈ wsX10_told := innX10_told_X4
  refine lv_aload_n hx hb dX10_told_0 rfl (lv_at hl 0 rfl) ?_
  refine lv_iload_n hx hb dX10_told_1 rfl (lv_at hl 1 rfl) ?_
  refine lv_iconst (v := 0) hx hb dX10_told_2 (by decide) ?_
  refine lv_iconst (v := 4) hx hb dX10_told_3 (by decide) ?_
  refine he_ci (wc := []) (wr := [(oX10 x0 y0 ta z0 p0 dr pa to_ s0 im ki tr v0 rf), (oX6 p0 p1 p2 p3 p4 w), (oX8 s0 h0 a0 b0 e0), (oX4 h0 q0 q1 mo), (aI g q0 24 f)]) (va_runS (As := [.int 3, .int 0, .int 4]) (rest := [.ref x0]) ⟨hx, hb, hml, hown, hts⟩ (c_X10_within l g 3 0 4 H.size) (va_cwS 3 hts gX10_told_X10_within rfl rfl rfl (by decide +kernel) ⟨Nat.le_of_ble_eq_true rfl, Nat.le_of_ble_eq_true rfl⟩) (he_preS (wc := []) hK hP hD hS hA hE [] rfl rfl) rfl rfl hl.1 rfl (lv_room (Nat.le_of_ble_eq_true rfl)) dX10_told_4 ⟨(Nat.le_of_ble_eq_true rfl), (Nat.le_of_ble_eq_true rfl)⟩) hP hD hS hA [] [0, 1, 2, 3, 4] rfl rfl rfl (by decide) (fun r_1 u_2 H locs h_3 hP hD hS => ?_)
  subst h_3
  have hP : va_P g.1 vwCl [(oX10 x0 y0 ta z0 p0 dr pa to_ s0 im ki tr v0 rf), (oX6 p0 p1 p2 p3 p4 w), (oX8 s0 h0 a0 b0 e0), (oX4 h0 q0 q1 mo), (aI g q0 24 f)] H := hP
  have hD : va_D A [(oX10 x0 y0 ta z0 p0 dr pa to_ s0 im ki tr v0 rf), (oX6 p0 p1 p2 p3 p4 w), (oX8 s0 h0 a0 b0 e0), (oX4 h0 q0 q1 mo), (aI g q0 24 f)] := hD
  refine he_top (1) (by decide) ?_
  refine he_cv (wc := []) (wr := [(oX10 x0 y0 ta z0 p0 dr pa to_ s0 im ki tr v0 rf), (oX6 p0 p1 p2 p3 p4 w), (oX8 s0 h0 a0 b0 e0), (oX4 h0 q0 q1 mo), (aI g q0 24 f)]) (va_runV (As := [.int 1]) (rest := []) ⟨hx, hb, hml, hown, hts⟩ (c_X10_demand1 l g x0 H.size) (cwV 1 hts gX10_told_X10_demand rfl rfl rfl (by decide +kernel) ⟨Nat.le_of_ble_eq_true rfl, Nat.le_of_ble_eq_true rfl⟩) (he_preV (wc := []) hK hP hD hS hA hE [] rfl rfl 0 rfl rfl) rfl rfl hl.1 rfl (lv_room (Nat.le_of_ble_eq_true rfl)) dX10_told_7 ⟨(Nat.le_of_ble_eq_true rfl), (Nat.le_of_ble_eq_true rfl)⟩) hP hD hS hA [] [0, 1, 2, 3, 4] rfl rfl rfl (by decide) (fun u_5 H locs h_6 hP hD hS => ?_)
  have hP : va_P g.1 vwCl [(oX10 x0 y0 ta z0 p0 dr pa to_ s0 im ki tr v0 rf), (oX6 p0 p1 p2 p3 p4 w), (oX8 s0 h0 a0 b0 e0), (oX4 h0 q0 q1 mo), (aI g q0 24 f)] H := hP
  have hD : va_D A [(oX10 x0 y0 ta z0 p0 dr pa to_ s0 im ki tr v0 rf), (oX6 p0 p1 p2 p3 p4 w), (oX8 s0 h0 a0 b0 e0), (oX4 h0 q0 q1 mo), (aI g q0 24 f)] := hD
  refine lv_aload_n hx hb dX10_told_10 rfl (lv_at hl 0 rfl) ?_
  refine va_get (v := .ref s0) (T := TX10) (N := 13) hx hb hts inX10 hown hK hP 0 rfl rfl 7 (by decide) f39 (fun _ h9 => h9) rfl dX10_told_11 ?_
  refine va_get (v := .ref h0) (T := TX8) (N := 4) hx hb hts inX8 hown hK hP 2 rfl rfl 0 (by decide) f66 (fun _ h9 => h9) rfl dX10_told_14 ?_
  refine lv_astore_n (lv' := [(2, .ref h0), (0, .ref x0), (1, .int 3)]) hx hb dX10_told_17 rfl hl (by decide) rfl (fun ls hl => ?_)
  refine lv_aload_n hx hb dX10_told_18 rfl (lv_at hl 0 rfl) ?_
  refine va_get (v := .ref q0) (T := TX4) (N := 3) hx hb hts inX4 hown hK hP 3 rfl rfl 0 (by decide) f111 (fun _ h9 => h9) rfl dX10_told_19 ?_
  refine lv_bipush (v := 10) hx hb dX10_told_22 (by decide) ?_
  refine he_iald hx hb hK hP 4 rfl (10) (by decide) (by decide) (by first | decide | assumption) (f 10) rfl dX10_told_24 ?_
  refine lv_istore_n (lv' := [(3, .int (f 10)), (2, .ref h0), (0, .ref x0), (1, .int 3)]) hx hb dX10_told_25 rfl hl (by decide) rfl (fun ls hl => ?_)
  refine lv_iload_n hx hb dX10_told_26 rfl (lv_at hl 3 rfl) ?_
  refine lv_tableIn (tgt := 74) hx hb dX10_told_27 (by decide) (by decide) rfl (by decide) ?_
  refine lv_iload_n hx hb dX10_told_74 rfl (lv_at hl 0 rfl) ?_
  exact he_ri hQ hx hb hr hlk hP hD hS dX10_told_75 (Nat.le_of_ble_eq_true rfl) (Nat.le_of_ble_eq_true rfl) (()) (rfl) (trivial)
set_option maxHeartbeats 4000000 in
set_option maxRecDepth 100000 in
theorem g_X10_told4 (l : Launch) (g : he_G) (x0 : Nat) (y0 : Nat) (z0 : Nat) (dr : Nat) (pa : Nat) (s0 : Nat) (im : Nat) (tr : Nat) (v0 : Nat) (rf : Nat) (ta : Int32) (to_ : Int32) (ki : Int32) (p0 : Nat) (p1 : Nat) (p2 : Nat) (p3 : Nat) (p4 : Nat) (w : Int32) (a0 : Nat) (b0 : Nat) (e0 : Nat) (h0 : Nat) (q0 : Nat) (q1 : Nat) (mo : Int32) (f : Nat → Int32)  : he_I l yX10_told wsX10_told 1 22 0 0 g [.ref x0, .int 4] [(oX10 x0 y0 ta z0 p0 dr pa to_ s0 im ki tr v0 rf), (oX6 p0 p1 p2 p3 p4 w), (oX8 s0 h0 a0 b0 e0), (oX4 h0 q0 q1 mo), (aI g q0 24 f)] (fun (r : Int32) (u : Unit) => True) (fun (u : Unit) => [(oX10 x0 y0 ta z0 p0 dr pa to_ s0 im ki tr v0 rf), (oX6 p0 p1 p2 p3 p4 w), (oX8 s0 h0 a0 b0 e0), (oX4 h0 q0 q1 mo), (aI g q0 24 f)]) := by
  refine he_begin (l := l) (g := g) (y := yX10_told) (wl := wsX10_told) (fr := 1) (lo := 22) (mc := 0) (ms := 0) (av := [.ref x0, .int 4]) (ws := [(oX10 x0 y0 ta z0 p0 dr pa to_ s0 im ki tr v0 rf), (oX6 p0 p1 p2 p3 p4 w), (oX8 s0 h0 a0 b0 e0), (oX4 h0 q0 q1 mo), (aI g q0 24 f)]) (cc := cX10_told) (maxL := 4) (ret := (some .int)) (fun A => va_Qi (fun (r : Int32) (u : Unit) => True) (fun u t => he_post g A ((fun (u : Unit) => [(oX10 x0 y0 ta z0 p0 dr pa to_ s0 im ki tr v0 rf), (oX6 p0 p1 p2 p3 p4 w), (oX8 s0 h0 a0 b0 e0), (oX4 h0 q0 q1 mo), (aI g q0 24 f)]) u) t) A) (by decide) rfl (Nat.le_of_ble_eq_true rfl) ?_
  intro p e s m args below meth c A ls H locs Q hQ hB
  obtain ⟨hx, hb, hr, hml, hown, hts, hlk, hin, hP, hK, hD, hS, hA, hE, hl⟩ := hB
  have hl : lv_has ls 4 [(0, .ref x0), (1, .int 4)] := hl
  have f39 := hts (.fieldLink RX10 39 "HiredEnemy" "scene" "LHiredEnemy$Scene;") (iwoX10_told (k := 0) rfl)
  have inX10 : ∀ w ∈ wsX100, w ∈ wsX10_told := innX10_told_X10
  have f66 := hts (.fieldLink RX10 66 "HiredEnemy$Scene" "course" "LHiredEnemy$Course;") (iwoX10_told (k := 1) rfl)
  have inX8 : ∀ w ∈ wsX80, w ∈ wsX10_told := innX10_told_X8
  have f111 := hts (.fieldLink RX10 111 "HiredEnemy$Course" "now" "[I") (iwoX10_told (k := 2) rfl)
  have inX4 : ∀ w ∈ wsX40, w ∈ wsX10_told := innX10_told_X4
  have f114 := hts (.fieldLink RX10 114 "HiredEnemy$Course" "month" "I") (iwoX10_told (k := 6) rfl)
  refine lv_aload_n hx hb dX10_told_0 rfl (lv_at hl 0 rfl) ?_
  refine lv_iload_n hx hb dX10_told_1 rfl (lv_at hl 1 rfl) ?_
  refine lv_iconst (v := 0) hx hb dX10_told_2 (by decide) ?_
  refine lv_iconst (v := 4) hx hb dX10_told_3 (by decide) ?_
  refine he_ci (wc := []) (wr := [(oX10 x0 y0 ta z0 p0 dr pa to_ s0 im ki tr v0 rf), (oX6 p0 p1 p2 p3 p4 w), (oX8 s0 h0 a0 b0 e0), (oX4 h0 q0 q1 mo), (aI g q0 24 f)]) (va_runS (As := [.int 4, .int 0, .int 4]) (rest := [.ref x0]) ⟨hx, hb, hml, hown, hts⟩ (c_X10_within l g 4 0 4 H.size) (va_cwS 3 hts gX10_told_X10_within rfl rfl rfl (by decide +kernel) ⟨Nat.le_of_ble_eq_true rfl, Nat.le_of_ble_eq_true rfl⟩) (he_preS (wc := []) hK hP hD hS hA hE [] rfl rfl) rfl rfl hl.1 rfl (lv_room (Nat.le_of_ble_eq_true rfl)) dX10_told_4 ⟨(Nat.le_of_ble_eq_true rfl), (Nat.le_of_ble_eq_true rfl)⟩) hP hD hS hA [] [0, 1, 2, 3, 4] rfl rfl rfl (by decide) (fun r_1 u_2 H locs h_3 hP hD hS => ?_)
  subst h_3
  have hP : va_P g.1 vwCl [(oX10 x0 y0 ta z0 p0 dr pa to_ s0 im ki tr v0 rf), (oX6 p0 p1 p2 p3 p4 w), (oX8 s0 h0 a0 b0 e0), (oX4 h0 q0 q1 mo), (aI g q0 24 f)] H := hP
  have hD : va_D A [(oX10 x0 y0 ta z0 p0 dr pa to_ s0 im ki tr v0 rf), (oX6 p0 p1 p2 p3 p4 w), (oX8 s0 h0 a0 b0 e0), (oX4 h0 q0 q1 mo), (aI g q0 24 f)] := hD
  refine he_top (1) (by decide) ?_
  refine he_cv (wc := []) (wr := [(oX10 x0 y0 ta z0 p0 dr pa to_ s0 im ki tr v0 rf), (oX6 p0 p1 p2 p3 p4 w), (oX8 s0 h0 a0 b0 e0), (oX4 h0 q0 q1 mo), (aI g q0 24 f)]) (va_runV (As := [.int 1]) (rest := []) ⟨hx, hb, hml, hown, hts⟩ (c_X10_demand1 l g x0 H.size) (cwV 1 hts gX10_told_X10_demand rfl rfl rfl (by decide +kernel) ⟨Nat.le_of_ble_eq_true rfl, Nat.le_of_ble_eq_true rfl⟩) (he_preV (wc := []) hK hP hD hS hA hE [] rfl rfl 0 rfl rfl) rfl rfl hl.1 rfl (lv_room (Nat.le_of_ble_eq_true rfl)) dX10_told_7 ⟨(Nat.le_of_ble_eq_true rfl), (Nat.le_of_ble_eq_true rfl)⟩) hP hD hS hA [] [0, 1, 2, 3, 4] rfl rfl rfl (by decide) (fun u_5 H locs h_6 hP hD hS => ?_)
  have hP : va_P g.1 vwCl [(oX10 x0 y0 ta z0 p0 dr pa to_ s0 im ki tr v0 rf), (oX6 p0 p1 p2 p3 p4 w), (oX8 s0 h0 a0 b0 e0), (oX4 h0 q0 q1 mo), (aI g q0 24 f)] H := hP
  have hD : va_D A [(oX10 x0 y0 ta z0 p0 dr pa to_ s0 im ki tr v0 rf), (oX6 p0 p1 p2 p3 p4 w), (oX8 s0 h0 a0 b0 e0), (oX4 h0 q0 q1 mo), (aI g q0 24 f)] := hD
  refine lv_aload_n hx hb dX10_told_10 rfl (lv_at hl 0 rfl) ?_
  refine va_get (v := .ref s0) (T := TX10) (N := 13) hx hb hts inX10 hown hK hP 0 rfl rfl 7 (by decide) f39 (fun _ h9 => h9) rfl dX10_told_11 ?_
  refine va_get (v := .ref h0) (T := TX8) (N := 4) hx hb hts inX8 hown hK hP 2 rfl rfl 0 (by decide) f66 (fun _ h9 => h9) rfl dX10_told_14 ?_
  refine lv_astore_n (lv' := [(2, .ref h0), (0, .ref x0), (1, .int 4)]) hx hb dX10_told_17 rfl hl (by decide) rfl (fun ls hl => ?_)
  refine lv_aload_n hx hb dX10_told_18 rfl (lv_at hl 0 rfl) ?_
  refine va_get (v := .ref q0) (T := TX4) (N := 3) hx hb hts inX4 hown hK hP 3 rfl rfl 0 (by decide) f111 (fun _ h9 => h9) rfl dX10_told_19 ?_
  refine lv_bipush (v := 10) hx hb dX10_told_22 (by decide) ?_
  refine he_iald hx hb hK hP 4 rfl (10) (by decide) (by decide) (by first | decide | assumption) (f 10) rfl dX10_told_24 ?_
  refine lv_istore_n (lv' := [(3, .int (f 10)), (2, .ref h0), (0, .ref x0), (1, .int 4)]) hx hb dX10_told_25 rfl hl (by decide) rfl (fun ls hl => ?_)
  refine lv_iload_n hx hb dX10_told_26 rfl (lv_at hl 3 rfl) ?_
  refine lv_tableOut (tgt := 76) hx hb dX10_told_27 (by decide) (by decide) ?_
  refine lv_iload_n hx hb dX10_told_76 rfl (lv_at hl 0 rfl) ?_
  refine lv_iconst (v := (-1)) hx hb dX10_told_77 (by decide) ?_
  refine lv_icmp_ne (tgt := 85) hx hb dX10_told_78 (by decide) (fun c_7 => ?_) (fun c_7 => ?_)
  · refine lv_aload_n hx hb dX10_told_85 rfl (lv_at hl 1 rfl) ?_
    refine va_get (v := .int mo) (T := TX4) (N := 3) hx hb hts inX4 hown hK hP 3 rfl rfl 2 (by decide) f114 (fun _ h9 => h9) rfl dX10_told_86 ?_
    refine lv_aload_n hx hb dX10_told_89 rfl (lv_at hl 1 rfl) ?_
    refine va_get (v := .ref q0) (T := TX4) (N := 3) hx hb hts inX4 hown hK hP 3 rfl rfl 0 (by decide) f111 (fun _ h9 => h9) rfl dX10_told_90 ?_
    refine lv_bipush (v := 11) hx hb dX10_told_93 (by decide) ?_
    refine he_iald hx hb hK hP 4 rfl (11) (by decide) (by decide) (by first | decide | assumption) (f 11) rfl dX10_told_95 ?_
    refine lv_isub hx hb dX10_told_96 ?_
    exact he_ri hQ hx hb hr hlk hP hD hS dX10_told_97 (Nat.le_of_ble_eq_true rfl) (Nat.le_of_ble_eq_true rfl) (()) (rfl) (trivial)
  · refine lv_iconst (v := (-1)) hx hb dX10_told_81 (by decide) ?_
    refine lv_goto (tgt := 97) hx hb dX10_told_82 (by decide) ?_
    exact he_ri hQ hx hb hr hlk hP hD hS dX10_told_97 (Nat.le_of_ble_eq_true rfl) (Nat.le_of_ble_eq_true rfl) (()) (rfl) (trivial)
set_option maxHeartbeats 4000000 in
set_option maxRecDepth 100000 in
theorem g_X10_wall0 (l : Launch) (g : he_G) (x0 : Nat) (y0 : Nat) (z0 : Nat) (dr : Nat) (pa : Nat) (s0 : Nat) (im : Nat) (tr : Nat) (v0 : Nat) (rf : Nat) (ta : Int32) (to_ : Int32) (ki : Int32) (p0 : Nat) (p1 : Nat) (p2 : Nat) (p3 : Nat) (p4 : Nat) (w : Nat) (st : Nat → Int32) (me : Nat → Int32) (a0 : Nat) (b0 : Nat) (e0 : Nat) (h0 : Nat) (q0 : Nat) (q1 : Nat) (mo : Int32) (f : Nat → Int32) (j : Nat) (hw6 : w ≤ 6) (hj : j < w) : he_I l yX10_wall wsX10_wall 2 43 0 0 g [.ref x0, .int (nI j), .int 0] [(oX10 x0 y0 ta z0 p0 dr pa to_ s0 im ki tr v0 rf), (oX6 p0 p1 p2 p3 p4 (nI w)), (aI g p3 6 st), (aI g p4 6 me), (oX8 s0 h0 a0 b0 e0), (oX4 h0 q0 q1 mo), (aI g q0 24 f)] (fun (r : Int32) (u : Unit) => True) (fun (u : Unit) => [(oX10 x0 y0 ta z0 p0 dr pa to_ s0 im ki tr v0 rf), (oX6 p0 p1 p2 p3 p4 (nI w)), (aI g p3 6 st), (aI g p4 6 me), (oX8 s0 h0 a0 b0 e0), (oX4 h0 q0 q1 mo), (aI g q0 24 f)]) := by
  refine he_begin (l := l) (g := g) (y := yX10_wall) (wl := wsX10_wall) (fr := 2) (lo := 43) (mc := 0) (ms := 0) (av := [.ref x0, .int (nI j), .int 0]) (ws := [(oX10 x0 y0 ta z0 p0 dr pa to_ s0 im ki tr v0 rf), (oX6 p0 p1 p2 p3 p4 (nI w)), (aI g p3 6 st), (aI g p4 6 me), (oX8 s0 h0 a0 b0 e0), (oX4 h0 q0 q1 mo), (aI g q0 24 f)]) (cc := cX10_wall) (maxL := 3) (ret := (some .int)) (fun A => va_Qi (fun (r : Int32) (u : Unit) => True) (fun u t => he_post g A ((fun (u : Unit) => [(oX10 x0 y0 ta z0 p0 dr pa to_ s0 im ki tr v0 rf), (oX6 p0 p1 p2 p3 p4 (nI w)), (aI g p3 6 st), (aI g p4 6 me), (oX8 s0 h0 a0 b0 e0), (oX4 h0 q0 q1 mo), (aI g q0 24 f)]) u) t) A) (by decide) rfl (Nat.le_of_ble_eq_true rfl) ?_
  intro p e s m args below meth c A ls H locs Q hQ hB
  obtain ⟨hx, hb, hr, hml, hown, hts, hlk, hin, hP, hK, hD, hS, hA, hE, hl⟩ := hB
  have hl : lv_has ls 3 [(0, .ref x0), (1, .int (nI j)), (2, .int 0)] := hl
  have f23 := hts (.fieldLink RX10 23 "HiredEnemy" "plan" "LHiredEnemy$Plan;") (iwoX10_wall (k := 0) rfl)
  have inX10 : ∀ w ∈ wsX100, w ∈ wsX10_wall := innX10_wall_X10
  have f120 := hts (.fieldLink RX10 120 "HiredEnemy$Plan" "strength" "[I") (iwoX10_wall (k := 1) rfl)
  have inX6 : ∀ w ∈ wsX60, w ∈ wsX10_wall := innX10_wall_X6
  refine lv_aload_n hx hb dX10_wall_0 rfl (lv_at hl 0 rfl) ?_
  refine lv_iload_n hx hb dX10_wall_1 rfl (lv_at hl 1 rfl) ?_
  refine he_cv (wc := [(oX10 x0 y0 ta z0 p0 dr pa to_ s0 im ki tr v0 rf), (oX6 p0 p1 p2 p3 p4 (nI w))]) (wr := [(aI g p3 6 st), (aI g p4 6 me), (oX8 s0 h0 a0 b0 e0), (oX4 h0 q0 q1 mo), (aI g q0 24 f)]) (va_runV (As := [.int (nI j)]) (rest := []) ⟨hx, hb, hml, hown, hts⟩ (g_X10_demandWall1 l g x0 y0 z0 dr pa s0 im tr v0 rf ta to_ ki p0 p1 p2 p3 p4 w (nI j) (wall_in hj (by omega)) H.size) (cwV 1 hts gX10_wall_X10_demandWall rfl rfl rfl (by decide +kernel) ⟨Nat.le_of_ble_eq_true rfl, Nat.le_of_ble_eq_true rfl⟩) (he_preV (wc := [(oX10 x0 y0 ta z0 p0 dr pa to_ s0 im ki tr v0 rf), (oX6 p0 p1 p2 p3 p4 (nI w))]) hK hP hD hS hA hE [0, 1] rfl rfl 0 rfl rfl) rfl rfl hl.1 rfl (lv_room (Nat.le_of_ble_eq_true rfl)) dX10_wall_2 ⟨(Nat.le_of_ble_eq_true rfl), (Nat.le_of_ble_eq_true rfl)⟩) hP hD hS hA [0, 1] [2, 3, 4, 5, 6] rfl rfl rfl (by decide) (fun u_2 H locs h_3 hP hD hS => ?_)
  have hP : va_P g.1 vwCl [(aI g p3 6 st), (aI g p4 6 me), (oX8 s0 h0 a0 b0 e0), (oX4 h0 q0 q1 mo), (aI g q0 24 f), (oX10 x0 y0 ta z0 p0 dr pa to_ s0 im ki tr v0 rf), (oX6 p0 p1 p2 p3 p4 (nI w))] H := hP
  have hD : va_D A [(aI g p3 6 st), (aI g p4 6 me), (oX8 s0 h0 a0 b0 e0), (oX4 h0 q0 q1 mo), (aI g q0 24 f), (oX10 x0 y0 ta z0 p0 dr pa to_ s0 im ki tr v0 rf), (oX6 p0 p1 p2 p3 p4 (nI w))] := hD
  refine lv_aload_n hx hb dX10_wall_5 rfl (lv_at hl 0 rfl) ?_
  refine lv_iload_n hx hb dX10_wall_6 rfl (lv_at hl 2 rfl) ?_
  refine lv_iconst (v := 0) hx hb dX10_wall_7 (by decide) ?_
  refine lv_iconst (v := 3) hx hb dX10_wall_8 (by decide) ?_
  refine he_ci (wc := []) (wr := [(aI g p3 6 st), (aI g p4 6 me), (oX8 s0 h0 a0 b0 e0), (oX4 h0 q0 q1 mo), (aI g q0 24 f), (oX10 x0 y0 ta z0 p0 dr pa to_ s0 im ki tr v0 rf), (oX6 p0 p1 p2 p3 p4 (nI w))]) (va_runS (As := [.int 0, .int 0, .int 3]) (rest := [.ref x0]) ⟨hx, hb, hml, hown, hts⟩ (c_X10_within l g 0 0 3 H.size) (va_cwS 3 hts gX10_wall_X10_within rfl rfl rfl (by decide +kernel) ⟨Nat.le_of_ble_eq_true rfl, Nat.le_of_ble_eq_true rfl⟩) (he_preS (wc := []) hK hP hD hS hA hE [] rfl rfl) rfl rfl hl.1 rfl (lv_room (Nat.le_of_ble_eq_true rfl)) dX10_wall_9 ⟨(Nat.le_of_ble_eq_true rfl), (Nat.le_of_ble_eq_true rfl)⟩) hP hD hS hA [] [0, 1, 2, 3, 4, 5, 6] rfl rfl rfl (by decide) (fun r_4 u_5 H locs h_6 hP hD hS => ?_)
  subst h_6
  have hP : va_P g.1 vwCl [(aI g p3 6 st), (aI g p4 6 me), (oX8 s0 h0 a0 b0 e0), (oX4 h0 q0 q1 mo), (aI g q0 24 f), (oX10 x0 y0 ta z0 p0 dr pa to_ s0 im ki tr v0 rf), (oX6 p0 p1 p2 p3 p4 (nI w))] H := hP
  have hD : va_D A [(aI g p3 6 st), (aI g p4 6 me), (oX8 s0 h0 a0 b0 e0), (oX4 h0 q0 q1 mo), (aI g q0 24 f), (oX10 x0 y0 ta z0 p0 dr pa to_ s0 im ki tr v0 rf), (oX6 p0 p1 p2 p3 p4 (nI w))] := hD
  refine he_top (1) (by decide) ?_
  refine he_cv (wc := []) (wr := [(aI g p3 6 st), (aI g p4 6 me), (oX8 s0 h0 a0 b0 e0), (oX4 h0 q0 q1 mo), (aI g q0 24 f), (oX10 x0 y0 ta z0 p0 dr pa to_ s0 im ki tr v0 rf), (oX6 p0 p1 p2 p3 p4 (nI w))]) (va_runV (As := [.int 1]) (rest := []) ⟨hx, hb, hml, hown, hts⟩ (c_X10_demand1 l g x0 H.size) (cwV 1 hts gX10_wall_X10_demand rfl rfl rfl (by decide +kernel) ⟨Nat.le_of_ble_eq_true rfl, Nat.le_of_ble_eq_true rfl⟩) (he_preV (wc := []) hK hP hD hS hA hE [] rfl rfl 5 rfl rfl) rfl rfl hl.1 rfl (lv_room (Nat.le_of_ble_eq_true rfl)) dX10_wall_12 ⟨(Nat.le_of_ble_eq_true rfl), (Nat.le_of_ble_eq_true rfl)⟩) hP hD hS hA [] [0, 1, 2, 3, 4, 5, 6] rfl rfl rfl (by decide) (fun u_8 H locs h_9 hP hD hS => ?_)
  have hP : va_P g.1 vwCl [(aI g p3 6 st), (aI g p4 6 me), (oX8 s0 h0 a0 b0 e0), (oX4 h0 q0 q1 mo), (aI g q0 24 f), (oX10 x0 y0 ta z0 p0 dr pa to_ s0 im ki tr v0 rf), (oX6 p0 p1 p2 p3 p4 (nI w))] H := hP
  have hD : va_D A [(aI g p3 6 st), (aI g p4 6 me), (oX8 s0 h0 a0 b0 e0), (oX4 h0 q0 q1 mo), (aI g q0 24 f), (oX10 x0 y0 ta z0 p0 dr pa to_ s0 im ki tr v0 rf), (oX6 p0 p1 p2 p3 p4 (nI w))] := hD
  refine lv_iload_n hx hb dX10_wall_15 rfl (lv_at hl 2 rfl) ?_
  refine lv_tableIn (tgt := 44) hx hb dX10_wall_16 (by decide) (by decide) rfl (by decide) ?_
  refine lv_aload_n hx hb dX10_wall_44 rfl (lv_at hl 0 rfl) ?_
  refine va_get (v := .ref p0) (T := TX10) (N := 13) hx hb hts inX10 hown hK hP 5 rfl rfl 3 (by decide) f23 (fun _ h9 => h9) rfl dX10_wall_45 ?_
  refine va_get (v := .ref p3) (T := TX6) (N := 5) hx hb hts inX6 hown hK hP 6 rfl rfl 2 (by decide) f120 (fun _ h9 => h9) rfl dX10_wall_48 ?_
  refine lv_iload_n hx hb dX10_wall_51 rfl (lv_at hl 1 rfl) ?_
  refine he_iald hx hb hK hP 0 rfl (j) rfl (by first | assumption | decide | omega) (by first | decide | assumption) (st j) rfl dX10_wall_52 ?_
  have hP := hP.sub (ws' := [(oX10 x0 y0 ta z0 p0 dr pa to_ s0 im ki tr v0 rf), (oX6 p0 p1 p2 p3 p4 (nI w)), (aI g p3 6 st), (aI g p4 6 me), (oX8 s0 h0 a0 b0 e0), (oX4 h0 q0 q1 mo), (aI g q0 24 f)]) [5, 6, 0, 1, 2, 3, 4] rfl
  have hD := hD.sub (ws' := [(oX10 x0 y0 ta z0 p0 dr pa to_ s0 im ki tr v0 rf), (oX6 p0 p1 p2 p3 p4 (nI w)), (aI g p3 6 st), (aI g p4 6 me), (oX8 s0 h0 a0 b0 e0), (oX4 h0 q0 q1 mo), (aI g q0 24 f)]) [5, 6, 0, 1, 2, 3, 4] (by decide) rfl
  exact he_ri hQ hx hb hr hlk hP hD hS dX10_wall_53 (Nat.le_of_ble_eq_true rfl) (Nat.le_of_ble_eq_true rfl) (()) (rfl) (trivial)
set_option maxHeartbeats 4000000 in
set_option maxRecDepth 100000 in
theorem g_X10_wall1 (l : Launch) (g : he_G) (x0 : Nat) (y0 : Nat) (z0 : Nat) (dr : Nat) (pa : Nat) (s0 : Nat) (im : Nat) (tr : Nat) (v0 : Nat) (rf : Nat) (ta : Int32) (to_ : Int32) (ki : Int32) (p0 : Nat) (p1 : Nat) (p2 : Nat) (p3 : Nat) (p4 : Nat) (w : Nat) (st : Nat → Int32) (me : Nat → Int32) (a0 : Nat) (b0 : Nat) (e0 : Nat) (h0 : Nat) (q0 : Nat) (q1 : Nat) (mo : Int32) (f : Nat → Int32) (j : Nat) (hw6 : w ≤ 6) (hj : j < w) : he_I l yX10_wall wsX10_wall 2 43 0 0 g [.ref x0, .int (nI j), .int 1] [(oX10 x0 y0 ta z0 p0 dr pa to_ s0 im ki tr v0 rf), (oX6 p0 p1 p2 p3 p4 (nI w)), (aI g p3 6 st), (aI g p4 6 me), (oX8 s0 h0 a0 b0 e0), (oX4 h0 q0 q1 mo), (aI g q0 24 f)] (fun (r : Int32) (u : Unit) => True) (fun (u : Unit) => [(oX10 x0 y0 ta z0 p0 dr pa to_ s0 im ki tr v0 rf), (oX6 p0 p1 p2 p3 p4 (nI w)), (aI g p3 6 st), (aI g p4 6 me), (oX8 s0 h0 a0 b0 e0), (oX4 h0 q0 q1 mo), (aI g q0 24 f)]) := by
  refine he_begin (l := l) (g := g) (y := yX10_wall) (wl := wsX10_wall) (fr := 2) (lo := 43) (mc := 0) (ms := 0) (av := [.ref x0, .int (nI j), .int 1]) (ws := [(oX10 x0 y0 ta z0 p0 dr pa to_ s0 im ki tr v0 rf), (oX6 p0 p1 p2 p3 p4 (nI w)), (aI g p3 6 st), (aI g p4 6 me), (oX8 s0 h0 a0 b0 e0), (oX4 h0 q0 q1 mo), (aI g q0 24 f)]) (cc := cX10_wall) (maxL := 3) (ret := (some .int)) (fun A => va_Qi (fun (r : Int32) (u : Unit) => True) (fun u t => he_post g A ((fun (u : Unit) => [(oX10 x0 y0 ta z0 p0 dr pa to_ s0 im ki tr v0 rf), (oX6 p0 p1 p2 p3 p4 (nI w)), (aI g p3 6 st), (aI g p4 6 me), (oX8 s0 h0 a0 b0 e0), (oX4 h0 q0 q1 mo), (aI g q0 24 f)]) u) t) A) (by decide) rfl (Nat.le_of_ble_eq_true rfl) ?_
  intro p e s m args below meth c A ls H locs Q hQ hB
  obtain ⟨hx, hb, hr, hml, hown, hts, hlk, hin, hP, hK, hD, hS, hA, hE, hl⟩ := hB
  have hl : lv_has ls 3 [(0, .ref x0), (1, .int (nI j)), (2, .int 1)] := hl
  have f39 := hts (.fieldLink RX10 39 "HiredEnemy" "scene" "LHiredEnemy$Scene;") (iwoX10_wall (k := 2) rfl)
  have inX10 : ∀ w ∈ wsX100, w ∈ wsX10_wall := innX10_wall_X10
  have f66 := hts (.fieldLink RX10 66 "HiredEnemy$Scene" "course" "LHiredEnemy$Course;") (iwoX10_wall (k := 3) rfl)
  have inX8 : ∀ w ∈ wsX80, w ∈ wsX10_wall := innX10_wall_X8
  have f111 := hts (.fieldLink RX10 111 "HiredEnemy$Course" "now" "[I") (iwoX10_wall (k := 4) rfl)
  have inX4 : ∀ w ∈ wsX40, w ∈ wsX10_wall := innX10_wall_X4
  refine lv_aload_n hx hb dX10_wall_0 rfl (lv_at hl 0 rfl) ?_
  refine lv_iload_n hx hb dX10_wall_1 rfl (lv_at hl 1 rfl) ?_
  refine he_cv (wc := [(oX10 x0 y0 ta z0 p0 dr pa to_ s0 im ki tr v0 rf), (oX6 p0 p1 p2 p3 p4 (nI w))]) (wr := [(aI g p3 6 st), (aI g p4 6 me), (oX8 s0 h0 a0 b0 e0), (oX4 h0 q0 q1 mo), (aI g q0 24 f)]) (va_runV (As := [.int (nI j)]) (rest := []) ⟨hx, hb, hml, hown, hts⟩ (g_X10_demandWall1 l g x0 y0 z0 dr pa s0 im tr v0 rf ta to_ ki p0 p1 p2 p3 p4 w (nI j) (wall_in hj (by omega)) H.size) (cwV 1 hts gX10_wall_X10_demandWall rfl rfl rfl (by decide +kernel) ⟨Nat.le_of_ble_eq_true rfl, Nat.le_of_ble_eq_true rfl⟩) (he_preV (wc := [(oX10 x0 y0 ta z0 p0 dr pa to_ s0 im ki tr v0 rf), (oX6 p0 p1 p2 p3 p4 (nI w))]) hK hP hD hS hA hE [0, 1] rfl rfl 0 rfl rfl) rfl rfl hl.1 rfl (lv_room (Nat.le_of_ble_eq_true rfl)) dX10_wall_2 ⟨(Nat.le_of_ble_eq_true rfl), (Nat.le_of_ble_eq_true rfl)⟩) hP hD hS hA [0, 1] [2, 3, 4, 5, 6] rfl rfl rfl (by decide) (fun u_2 H locs h_3 hP hD hS => ?_)
  have hP : va_P g.1 vwCl [(aI g p3 6 st), (aI g p4 6 me), (oX8 s0 h0 a0 b0 e0), (oX4 h0 q0 q1 mo), (aI g q0 24 f), (oX10 x0 y0 ta z0 p0 dr pa to_ s0 im ki tr v0 rf), (oX6 p0 p1 p2 p3 p4 (nI w))] H := hP
  have hD : va_D A [(aI g p3 6 st), (aI g p4 6 me), (oX8 s0 h0 a0 b0 e0), (oX4 h0 q0 q1 mo), (aI g q0 24 f), (oX10 x0 y0 ta z0 p0 dr pa to_ s0 im ki tr v0 rf), (oX6 p0 p1 p2 p3 p4 (nI w))] := hD
  refine lv_aload_n hx hb dX10_wall_5 rfl (lv_at hl 0 rfl) ?_
  refine lv_iload_n hx hb dX10_wall_6 rfl (lv_at hl 2 rfl) ?_
  refine lv_iconst (v := 0) hx hb dX10_wall_7 (by decide) ?_
  refine lv_iconst (v := 3) hx hb dX10_wall_8 (by decide) ?_
  refine he_ci (wc := []) (wr := [(aI g p3 6 st), (aI g p4 6 me), (oX8 s0 h0 a0 b0 e0), (oX4 h0 q0 q1 mo), (aI g q0 24 f), (oX10 x0 y0 ta z0 p0 dr pa to_ s0 im ki tr v0 rf), (oX6 p0 p1 p2 p3 p4 (nI w))]) (va_runS (As := [.int 1, .int 0, .int 3]) (rest := [.ref x0]) ⟨hx, hb, hml, hown, hts⟩ (c_X10_within l g 1 0 3 H.size) (va_cwS 3 hts gX10_wall_X10_within rfl rfl rfl (by decide +kernel) ⟨Nat.le_of_ble_eq_true rfl, Nat.le_of_ble_eq_true rfl⟩) (he_preS (wc := []) hK hP hD hS hA hE [] rfl rfl) rfl rfl hl.1 rfl (lv_room (Nat.le_of_ble_eq_true rfl)) dX10_wall_9 ⟨(Nat.le_of_ble_eq_true rfl), (Nat.le_of_ble_eq_true rfl)⟩) hP hD hS hA [] [0, 1, 2, 3, 4, 5, 6] rfl rfl rfl (by decide) (fun r_4 u_5 H locs h_6 hP hD hS => ?_)
  subst h_6
  have hP : va_P g.1 vwCl [(aI g p3 6 st), (aI g p4 6 me), (oX8 s0 h0 a0 b0 e0), (oX4 h0 q0 q1 mo), (aI g q0 24 f), (oX10 x0 y0 ta z0 p0 dr pa to_ s0 im ki tr v0 rf), (oX6 p0 p1 p2 p3 p4 (nI w))] H := hP
  have hD : va_D A [(aI g p3 6 st), (aI g p4 6 me), (oX8 s0 h0 a0 b0 e0), (oX4 h0 q0 q1 mo), (aI g q0 24 f), (oX10 x0 y0 ta z0 p0 dr pa to_ s0 im ki tr v0 rf), (oX6 p0 p1 p2 p3 p4 (nI w))] := hD
  refine he_top (1) (by decide) ?_
  refine he_cv (wc := []) (wr := [(aI g p3 6 st), (aI g p4 6 me), (oX8 s0 h0 a0 b0 e0), (oX4 h0 q0 q1 mo), (aI g q0 24 f), (oX10 x0 y0 ta z0 p0 dr pa to_ s0 im ki tr v0 rf), (oX6 p0 p1 p2 p3 p4 (nI w))]) (va_runV (As := [.int 1]) (rest := []) ⟨hx, hb, hml, hown, hts⟩ (c_X10_demand1 l g x0 H.size) (cwV 1 hts gX10_wall_X10_demand rfl rfl rfl (by decide +kernel) ⟨Nat.le_of_ble_eq_true rfl, Nat.le_of_ble_eq_true rfl⟩) (he_preV (wc := []) hK hP hD hS hA hE [] rfl rfl 5 rfl rfl) rfl rfl hl.1 rfl (lv_room (Nat.le_of_ble_eq_true rfl)) dX10_wall_12 ⟨(Nat.le_of_ble_eq_true rfl), (Nat.le_of_ble_eq_true rfl)⟩) hP hD hS hA [] [0, 1, 2, 3, 4, 5, 6] rfl rfl rfl (by decide) (fun u_8 H locs h_9 hP hD hS => ?_)
  have hP : va_P g.1 vwCl [(aI g p3 6 st), (aI g p4 6 me), (oX8 s0 h0 a0 b0 e0), (oX4 h0 q0 q1 mo), (aI g q0 24 f), (oX10 x0 y0 ta z0 p0 dr pa to_ s0 im ki tr v0 rf), (oX6 p0 p1 p2 p3 p4 (nI w))] H := hP
  have hD : va_D A [(aI g p3 6 st), (aI g p4 6 me), (oX8 s0 h0 a0 b0 e0), (oX4 h0 q0 q1 mo), (aI g q0 24 f), (oX10 x0 y0 ta z0 p0 dr pa to_ s0 im ki tr v0 rf), (oX6 p0 p1 p2 p3 p4 (nI w))] := hD
  refine lv_iload_n hx hb dX10_wall_15 rfl (lv_at hl 2 rfl) ?_
  refine lv_tableIn (tgt := 54) hx hb dX10_wall_16 (by decide) (by decide) rfl (by decide) ?_
  refine lv_aload_n hx hb dX10_wall_54 rfl (lv_at hl 0 rfl) ?_
  refine va_get (v := .ref s0) (T := TX10) (N := 13) hx hb hts inX10 hown hK hP 5 rfl rfl 7 (by decide) f39 (fun _ h9 => h9) rfl dX10_wall_55 ?_
  refine va_get (v := .ref h0) (T := TX8) (N := 4) hx hb hts inX8 hown hK hP 2 rfl rfl 0 (by decide) f66 (fun _ h9 => h9) rfl dX10_wall_58 ?_
  refine va_get (v := .ref q0) (T := TX4) (N := 3) hx hb hts inX4 hown hK hP 3 rfl rfl 0 (by decide) f111 (fun _ h9 => h9) rfl dX10_wall_61 ?_
  refine lv_bipush (v := 12) hx hb dX10_wall_64 (by decide) ?_
  refine lv_iload_n hx hb dX10_wall_66 rfl (lv_at hl 1 rfl) ?_
  refine lv_iadd hx hb dX10_wall_67 ?_
  refine he_top (nI (12 + j)) (nI_add 12 j) ?_
  refine he_iald hx hb hK hP 4 rfl (12 + j) rfl (by first | assumption | decide | omega) (by first | decide | assumption) (f (12 + j)) rfl dX10_wall_68 ?_
  have hP := hP.sub (ws' := [(oX10 x0 y0 ta z0 p0 dr pa to_ s0 im ki tr v0 rf), (oX6 p0 p1 p2 p3 p4 (nI w)), (aI g p3 6 st), (aI g p4 6 me), (oX8 s0 h0 a0 b0 e0), (oX4 h0 q0 q1 mo), (aI g q0 24 f)]) [5, 6, 0, 1, 2, 3, 4] rfl
  have hD := hD.sub (ws' := [(oX10 x0 y0 ta z0 p0 dr pa to_ s0 im ki tr v0 rf), (oX6 p0 p1 p2 p3 p4 (nI w)), (aI g p3 6 st), (aI g p4 6 me), (oX8 s0 h0 a0 b0 e0), (oX4 h0 q0 q1 mo), (aI g q0 24 f)]) [5, 6, 0, 1, 2, 3, 4] (by decide) rfl
  exact he_ri hQ hx hb hr hlk hP hD hS dX10_wall_69 (Nat.le_of_ble_eq_true rfl) (Nat.le_of_ble_eq_true rfl) (()) (rfl) (trivial)
set_option maxHeartbeats 4000000 in
set_option maxRecDepth 100000 in
theorem g_X10_wall2 (l : Launch) (g : he_G) (x0 : Nat) (y0 : Nat) (z0 : Nat) (dr : Nat) (pa : Nat) (s0 : Nat) (im : Nat) (tr : Nat) (v0 : Nat) (rf : Nat) (ta : Int32) (to_ : Int32) (ki : Int32) (p0 : Nat) (p1 : Nat) (p2 : Nat) (p3 : Nat) (p4 : Nat) (w : Nat) (st : Nat → Int32) (me : Nat → Int32) (a0 : Nat) (b0 : Nat) (e0 : Nat) (h0 : Nat) (q0 : Nat) (q1 : Nat) (mo : Int32) (f : Nat → Int32) (j : Nat) (hw6 : w ≤ 6) (hj : j < w) : he_I l yX10_wall wsX10_wall 2 43 0 0 g [.ref x0, .int (nI j), .int 2] [(oX10 x0 y0 ta z0 p0 dr pa to_ s0 im ki tr v0 rf), (oX6 p0 p1 p2 p3 p4 (nI w)), (aI g p3 6 st), (aI g p4 6 me), (oX8 s0 h0 a0 b0 e0), (oX4 h0 q0 q1 mo), (aI g q0 24 f)] (fun (r : Int32) (u : Unit) => True) (fun (u : Unit) => [(oX10 x0 y0 ta z0 p0 dr pa to_ s0 im ki tr v0 rf), (oX6 p0 p1 p2 p3 p4 (nI w)), (aI g p3 6 st), (aI g p4 6 me), (oX8 s0 h0 a0 b0 e0), (oX4 h0 q0 q1 mo), (aI g q0 24 f)]) := by
  refine he_begin (l := l) (g := g) (y := yX10_wall) (wl := wsX10_wall) (fr := 2) (lo := 43) (mc := 0) (ms := 0) (av := [.ref x0, .int (nI j), .int 2]) (ws := [(oX10 x0 y0 ta z0 p0 dr pa to_ s0 im ki tr v0 rf), (oX6 p0 p1 p2 p3 p4 (nI w)), (aI g p3 6 st), (aI g p4 6 me), (oX8 s0 h0 a0 b0 e0), (oX4 h0 q0 q1 mo), (aI g q0 24 f)]) (cc := cX10_wall) (maxL := 3) (ret := (some .int)) (fun A => va_Qi (fun (r : Int32) (u : Unit) => True) (fun u t => he_post g A ((fun (u : Unit) => [(oX10 x0 y0 ta z0 p0 dr pa to_ s0 im ki tr v0 rf), (oX6 p0 p1 p2 p3 p4 (nI w)), (aI g p3 6 st), (aI g p4 6 me), (oX8 s0 h0 a0 b0 e0), (oX4 h0 q0 q1 mo), (aI g q0 24 f)]) u) t) A) (by decide) rfl (Nat.le_of_ble_eq_true rfl) ?_
  intro p e s m args below meth c A ls H locs Q hQ hB
  obtain ⟨hx, hb, hr, hml, hown, hts, hlk, hin, hP, hK, hD, hS, hA, hE, hl⟩ := hB
  have hl : lv_has ls 3 [(0, .ref x0), (1, .int (nI j)), (2, .int 2)] := hl
  have f23 := hts (.fieldLink RX10 23 "HiredEnemy" "plan" "LHiredEnemy$Plan;") (iwoX10_wall (k := 0) rfl)
  have inX10 : ∀ w ∈ wsX100, w ∈ wsX10_wall := innX10_wall_X10
  have f123 := hts (.fieldLink RX10 123 "HiredEnemy$Plan" "mended" "[I") (iwoX10_wall (k := 5) rfl)
  have inX6 : ∀ w ∈ wsX60, w ∈ wsX10_wall := innX10_wall_X6
  refine lv_aload_n hx hb dX10_wall_0 rfl (lv_at hl 0 rfl) ?_
  refine lv_iload_n hx hb dX10_wall_1 rfl (lv_at hl 1 rfl) ?_
  refine he_cv (wc := [(oX10 x0 y0 ta z0 p0 dr pa to_ s0 im ki tr v0 rf), (oX6 p0 p1 p2 p3 p4 (nI w))]) (wr := [(aI g p3 6 st), (aI g p4 6 me), (oX8 s0 h0 a0 b0 e0), (oX4 h0 q0 q1 mo), (aI g q0 24 f)]) (va_runV (As := [.int (nI j)]) (rest := []) ⟨hx, hb, hml, hown, hts⟩ (g_X10_demandWall1 l g x0 y0 z0 dr pa s0 im tr v0 rf ta to_ ki p0 p1 p2 p3 p4 w (nI j) (wall_in hj (by omega)) H.size) (cwV 1 hts gX10_wall_X10_demandWall rfl rfl rfl (by decide +kernel) ⟨Nat.le_of_ble_eq_true rfl, Nat.le_of_ble_eq_true rfl⟩) (he_preV (wc := [(oX10 x0 y0 ta z0 p0 dr pa to_ s0 im ki tr v0 rf), (oX6 p0 p1 p2 p3 p4 (nI w))]) hK hP hD hS hA hE [0, 1] rfl rfl 0 rfl rfl) rfl rfl hl.1 rfl (lv_room (Nat.le_of_ble_eq_true rfl)) dX10_wall_2 ⟨(Nat.le_of_ble_eq_true rfl), (Nat.le_of_ble_eq_true rfl)⟩) hP hD hS hA [0, 1] [2, 3, 4, 5, 6] rfl rfl rfl (by decide) (fun u_2 H locs h_3 hP hD hS => ?_)
  have hP : va_P g.1 vwCl [(aI g p3 6 st), (aI g p4 6 me), (oX8 s0 h0 a0 b0 e0), (oX4 h0 q0 q1 mo), (aI g q0 24 f), (oX10 x0 y0 ta z0 p0 dr pa to_ s0 im ki tr v0 rf), (oX6 p0 p1 p2 p3 p4 (nI w))] H := hP
  have hD : va_D A [(aI g p3 6 st), (aI g p4 6 me), (oX8 s0 h0 a0 b0 e0), (oX4 h0 q0 q1 mo), (aI g q0 24 f), (oX10 x0 y0 ta z0 p0 dr pa to_ s0 im ki tr v0 rf), (oX6 p0 p1 p2 p3 p4 (nI w))] := hD
  refine lv_aload_n hx hb dX10_wall_5 rfl (lv_at hl 0 rfl) ?_
  refine lv_iload_n hx hb dX10_wall_6 rfl (lv_at hl 2 rfl) ?_
  refine lv_iconst (v := 0) hx hb dX10_wall_7 (by decide) ?_
  refine lv_iconst (v := 3) hx hb dX10_wall_8 (by decide) ?_
  refine he_ci (wc := []) (wr := [(aI g p3 6 st), (aI g p4 6 me), (oX8 s0 h0 a0 b0 e0), (oX4 h0 q0 q1 mo), (aI g q0 24 f), (oX10 x0 y0 ta z0 p0 dr pa to_ s0 im ki tr v0 rf), (oX6 p0 p1 p2 p3 p4 (nI w))]) (va_runS (As := [.int 2, .int 0, .int 3]) (rest := [.ref x0]) ⟨hx, hb, hml, hown, hts⟩ (c_X10_within l g 2 0 3 H.size) (va_cwS 3 hts gX10_wall_X10_within rfl rfl rfl (by decide +kernel) ⟨Nat.le_of_ble_eq_true rfl, Nat.le_of_ble_eq_true rfl⟩) (he_preS (wc := []) hK hP hD hS hA hE [] rfl rfl) rfl rfl hl.1 rfl (lv_room (Nat.le_of_ble_eq_true rfl)) dX10_wall_9 ⟨(Nat.le_of_ble_eq_true rfl), (Nat.le_of_ble_eq_true rfl)⟩) hP hD hS hA [] [0, 1, 2, 3, 4, 5, 6] rfl rfl rfl (by decide) (fun r_4 u_5 H locs h_6 hP hD hS => ?_)
  subst h_6
  have hP : va_P g.1 vwCl [(aI g p3 6 st), (aI g p4 6 me), (oX8 s0 h0 a0 b0 e0), (oX4 h0 q0 q1 mo), (aI g q0 24 f), (oX10 x0 y0 ta z0 p0 dr pa to_ s0 im ki tr v0 rf), (oX6 p0 p1 p2 p3 p4 (nI w))] H := hP
  have hD : va_D A [(aI g p3 6 st), (aI g p4 6 me), (oX8 s0 h0 a0 b0 e0), (oX4 h0 q0 q1 mo), (aI g q0 24 f), (oX10 x0 y0 ta z0 p0 dr pa to_ s0 im ki tr v0 rf), (oX6 p0 p1 p2 p3 p4 (nI w))] := hD
  refine he_top (1) (by decide) ?_
  refine he_cv (wc := []) (wr := [(aI g p3 6 st), (aI g p4 6 me), (oX8 s0 h0 a0 b0 e0), (oX4 h0 q0 q1 mo), (aI g q0 24 f), (oX10 x0 y0 ta z0 p0 dr pa to_ s0 im ki tr v0 rf), (oX6 p0 p1 p2 p3 p4 (nI w))]) (va_runV (As := [.int 1]) (rest := []) ⟨hx, hb, hml, hown, hts⟩ (c_X10_demand1 l g x0 H.size) (cwV 1 hts gX10_wall_X10_demand rfl rfl rfl (by decide +kernel) ⟨Nat.le_of_ble_eq_true rfl, Nat.le_of_ble_eq_true rfl⟩) (he_preV (wc := []) hK hP hD hS hA hE [] rfl rfl 5 rfl rfl) rfl rfl hl.1 rfl (lv_room (Nat.le_of_ble_eq_true rfl)) dX10_wall_12 ⟨(Nat.le_of_ble_eq_true rfl), (Nat.le_of_ble_eq_true rfl)⟩) hP hD hS hA [] [0, 1, 2, 3, 4, 5, 6] rfl rfl rfl (by decide) (fun u_8 H locs h_9 hP hD hS => ?_)
  have hP : va_P g.1 vwCl [(aI g p3 6 st), (aI g p4 6 me), (oX8 s0 h0 a0 b0 e0), (oX4 h0 q0 q1 mo), (aI g q0 24 f), (oX10 x0 y0 ta z0 p0 dr pa to_ s0 im ki tr v0 rf), (oX6 p0 p1 p2 p3 p4 (nI w))] H := hP
  have hD : va_D A [(aI g p3 6 st), (aI g p4 6 me), (oX8 s0 h0 a0 b0 e0), (oX4 h0 q0 q1 mo), (aI g q0 24 f), (oX10 x0 y0 ta z0 p0 dr pa to_ s0 im ki tr v0 rf), (oX6 p0 p1 p2 p3 p4 (nI w))] := hD
  refine lv_iload_n hx hb dX10_wall_15 rfl (lv_at hl 2 rfl) ?_
  refine lv_tableIn (tgt := 70) hx hb dX10_wall_16 (by decide) (by decide) rfl (by decide) ?_
  refine lv_aload_n hx hb dX10_wall_70 rfl (lv_at hl 0 rfl) ?_
  refine va_get (v := .ref p0) (T := TX10) (N := 13) hx hb hts inX10 hown hK hP 5 rfl rfl 3 (by decide) f23 (fun _ h9 => h9) rfl dX10_wall_71 ?_
  refine va_get (v := .ref p4) (T := TX6) (N := 5) hx hb hts inX6 hown hK hP 6 rfl rfl 3 (by decide) f123 (fun _ h9 => h9) rfl dX10_wall_74 ?_
  refine lv_iload_n hx hb dX10_wall_77 rfl (lv_at hl 1 rfl) ?_
  refine he_iald hx hb hK hP 1 rfl (j) rfl (by first | assumption | decide | omega) (by first | decide | assumption) (me j) rfl dX10_wall_78 ?_
  have hP := hP.sub (ws' := [(oX10 x0 y0 ta z0 p0 dr pa to_ s0 im ki tr v0 rf), (oX6 p0 p1 p2 p3 p4 (nI w)), (aI g p3 6 st), (aI g p4 6 me), (oX8 s0 h0 a0 b0 e0), (oX4 h0 q0 q1 mo), (aI g q0 24 f)]) [5, 6, 0, 1, 2, 3, 4] rfl
  have hD := hD.sub (ws' := [(oX10 x0 y0 ta z0 p0 dr pa to_ s0 im ki tr v0 rf), (oX6 p0 p1 p2 p3 p4 (nI w)), (aI g p3 6 st), (aI g p4 6 me), (oX8 s0 h0 a0 b0 e0), (oX4 h0 q0 q1 mo), (aI g q0 24 f)]) [5, 6, 0, 1, 2, 3, 4] (by decide) rfl
  exact he_ri hQ hx hb hr hlk hP hD hS dX10_wall_79 (Nat.le_of_ble_eq_true rfl) (Nat.le_of_ble_eq_true rfl) (()) (rfl) (trivial)
set_option maxHeartbeats 4000000 in
set_option maxRecDepth 100000 in
theorem g_X10_wall3 (l : Launch) (g : he_G) (x0 : Nat) (y0 : Nat) (z0 : Nat) (dr : Nat) (pa : Nat) (s0 : Nat) (im : Nat) (tr : Nat) (v0 : Nat) (rf : Nat) (ta : Int32) (to_ : Int32) (ki : Int32) (p0 : Nat) (p1 : Nat) (p2 : Nat) (p3 : Nat) (p4 : Nat) (w : Nat) (st : Nat → Int32) (me : Nat → Int32) (a0 : Nat) (b0 : Nat) (e0 : Nat) (h0 : Nat) (q0 : Nat) (q1 : Nat) (mo : Int32) (f : Nat → Int32) (j : Nat) (hw6 : w ≤ 6) (hj : j < w) : he_I l yX10_wall wsX10_wall 2 43 0 0 g [.ref x0, .int (nI j), .int 3] [(oX10 x0 y0 ta z0 p0 dr pa to_ s0 im ki tr v0 rf), (oX6 p0 p1 p2 p3 p4 (nI w)), (aI g p3 6 st), (aI g p4 6 me), (oX8 s0 h0 a0 b0 e0), (oX4 h0 q0 q1 mo), (aI g q0 24 f)] (fun (r : Int32) (u : Unit) => True) (fun (u : Unit) => [(oX10 x0 y0 ta z0 p0 dr pa to_ s0 im ki tr v0 rf), (oX6 p0 p1 p2 p3 p4 (nI w)), (aI g p3 6 st), (aI g p4 6 me), (oX8 s0 h0 a0 b0 e0), (oX4 h0 q0 q1 mo), (aI g q0 24 f)]) := by
  refine he_begin (l := l) (g := g) (y := yX10_wall) (wl := wsX10_wall) (fr := 2) (lo := 43) (mc := 0) (ms := 0) (av := [.ref x0, .int (nI j), .int 3]) (ws := [(oX10 x0 y0 ta z0 p0 dr pa to_ s0 im ki tr v0 rf), (oX6 p0 p1 p2 p3 p4 (nI w)), (aI g p3 6 st), (aI g p4 6 me), (oX8 s0 h0 a0 b0 e0), (oX4 h0 q0 q1 mo), (aI g q0 24 f)]) (cc := cX10_wall) (maxL := 3) (ret := (some .int)) (fun A => va_Qi (fun (r : Int32) (u : Unit) => True) (fun u t => he_post g A ((fun (u : Unit) => [(oX10 x0 y0 ta z0 p0 dr pa to_ s0 im ki tr v0 rf), (oX6 p0 p1 p2 p3 p4 (nI w)), (aI g p3 6 st), (aI g p4 6 me), (oX8 s0 h0 a0 b0 e0), (oX4 h0 q0 q1 mo), (aI g q0 24 f)]) u) t) A) (by decide) rfl (Nat.le_of_ble_eq_true rfl) ?_
  intro p e s m args below meth c A ls H locs Q hQ hB
  obtain ⟨hx, hb, hr, hml, hown, hts, hlk, hin, hP, hK, hD, hS, hA, hE, hl⟩ := hB
  have hl : lv_has ls 3 [(0, .ref x0), (1, .int (nI j)), (2, .int 3)] := hl
  have f39 := hts (.fieldLink RX10 39 "HiredEnemy" "scene" "LHiredEnemy$Scene;") (iwoX10_wall (k := 2) rfl)
  have inX10 : ∀ w ∈ wsX100, w ∈ wsX10_wall := innX10_wall_X10
  have f66 := hts (.fieldLink RX10 66 "HiredEnemy$Scene" "course" "LHiredEnemy$Course;") (iwoX10_wall (k := 3) rfl)
  have inX8 : ∀ w ∈ wsX80, w ∈ wsX10_wall := innX10_wall_X8
  have f111 := hts (.fieldLink RX10 111 "HiredEnemy$Course" "now" "[I") (iwoX10_wall (k := 4) rfl)
  have inX4 : ∀ w ∈ wsX40, w ∈ wsX10_wall := innX10_wall_X4
  refine lv_aload_n hx hb dX10_wall_0 rfl (lv_at hl 0 rfl) ?_
  refine lv_iload_n hx hb dX10_wall_1 rfl (lv_at hl 1 rfl) ?_
  refine he_cv (wc := [(oX10 x0 y0 ta z0 p0 dr pa to_ s0 im ki tr v0 rf), (oX6 p0 p1 p2 p3 p4 (nI w))]) (wr := [(aI g p3 6 st), (aI g p4 6 me), (oX8 s0 h0 a0 b0 e0), (oX4 h0 q0 q1 mo), (aI g q0 24 f)]) (va_runV (As := [.int (nI j)]) (rest := []) ⟨hx, hb, hml, hown, hts⟩ (g_X10_demandWall1 l g x0 y0 z0 dr pa s0 im tr v0 rf ta to_ ki p0 p1 p2 p3 p4 w (nI j) (wall_in hj (by omega)) H.size) (cwV 1 hts gX10_wall_X10_demandWall rfl rfl rfl (by decide +kernel) ⟨Nat.le_of_ble_eq_true rfl, Nat.le_of_ble_eq_true rfl⟩) (he_preV (wc := [(oX10 x0 y0 ta z0 p0 dr pa to_ s0 im ki tr v0 rf), (oX6 p0 p1 p2 p3 p4 (nI w))]) hK hP hD hS hA hE [0, 1] rfl rfl 0 rfl rfl) rfl rfl hl.1 rfl (lv_room (Nat.le_of_ble_eq_true rfl)) dX10_wall_2 ⟨(Nat.le_of_ble_eq_true rfl), (Nat.le_of_ble_eq_true rfl)⟩) hP hD hS hA [0, 1] [2, 3, 4, 5, 6] rfl rfl rfl (by decide) (fun u_2 H locs h_3 hP hD hS => ?_)
  have hP : va_P g.1 vwCl [(aI g p3 6 st), (aI g p4 6 me), (oX8 s0 h0 a0 b0 e0), (oX4 h0 q0 q1 mo), (aI g q0 24 f), (oX10 x0 y0 ta z0 p0 dr pa to_ s0 im ki tr v0 rf), (oX6 p0 p1 p2 p3 p4 (nI w))] H := hP
  have hD : va_D A [(aI g p3 6 st), (aI g p4 6 me), (oX8 s0 h0 a0 b0 e0), (oX4 h0 q0 q1 mo), (aI g q0 24 f), (oX10 x0 y0 ta z0 p0 dr pa to_ s0 im ki tr v0 rf), (oX6 p0 p1 p2 p3 p4 (nI w))] := hD
  refine lv_aload_n hx hb dX10_wall_5 rfl (lv_at hl 0 rfl) ?_
  refine lv_iload_n hx hb dX10_wall_6 rfl (lv_at hl 2 rfl) ?_
  refine lv_iconst (v := 0) hx hb dX10_wall_7 (by decide) ?_
  refine lv_iconst (v := 3) hx hb dX10_wall_8 (by decide) ?_
  refine he_ci (wc := []) (wr := [(aI g p3 6 st), (aI g p4 6 me), (oX8 s0 h0 a0 b0 e0), (oX4 h0 q0 q1 mo), (aI g q0 24 f), (oX10 x0 y0 ta z0 p0 dr pa to_ s0 im ki tr v0 rf), (oX6 p0 p1 p2 p3 p4 (nI w))]) (va_runS (As := [.int 3, .int 0, .int 3]) (rest := [.ref x0]) ⟨hx, hb, hml, hown, hts⟩ (c_X10_within l g 3 0 3 H.size) (va_cwS 3 hts gX10_wall_X10_within rfl rfl rfl (by decide +kernel) ⟨Nat.le_of_ble_eq_true rfl, Nat.le_of_ble_eq_true rfl⟩) (he_preS (wc := []) hK hP hD hS hA hE [] rfl rfl) rfl rfl hl.1 rfl (lv_room (Nat.le_of_ble_eq_true rfl)) dX10_wall_9 ⟨(Nat.le_of_ble_eq_true rfl), (Nat.le_of_ble_eq_true rfl)⟩) hP hD hS hA [] [0, 1, 2, 3, 4, 5, 6] rfl rfl rfl (by decide) (fun r_4 u_5 H locs h_6 hP hD hS => ?_)
  subst h_6
  have hP : va_P g.1 vwCl [(aI g p3 6 st), (aI g p4 6 me), (oX8 s0 h0 a0 b0 e0), (oX4 h0 q0 q1 mo), (aI g q0 24 f), (oX10 x0 y0 ta z0 p0 dr pa to_ s0 im ki tr v0 rf), (oX6 p0 p1 p2 p3 p4 (nI w))] H := hP
  have hD : va_D A [(aI g p3 6 st), (aI g p4 6 me), (oX8 s0 h0 a0 b0 e0), (oX4 h0 q0 q1 mo), (aI g q0 24 f), (oX10 x0 y0 ta z0 p0 dr pa to_ s0 im ki tr v0 rf), (oX6 p0 p1 p2 p3 p4 (nI w))] := hD
  refine he_top (1) (by decide) ?_
  refine he_cv (wc := []) (wr := [(aI g p3 6 st), (aI g p4 6 me), (oX8 s0 h0 a0 b0 e0), (oX4 h0 q0 q1 mo), (aI g q0 24 f), (oX10 x0 y0 ta z0 p0 dr pa to_ s0 im ki tr v0 rf), (oX6 p0 p1 p2 p3 p4 (nI w))]) (va_runV (As := [.int 1]) (rest := []) ⟨hx, hb, hml, hown, hts⟩ (c_X10_demand1 l g x0 H.size) (cwV 1 hts gX10_wall_X10_demand rfl rfl rfl (by decide +kernel) ⟨Nat.le_of_ble_eq_true rfl, Nat.le_of_ble_eq_true rfl⟩) (he_preV (wc := []) hK hP hD hS hA hE [] rfl rfl 5 rfl rfl) rfl rfl hl.1 rfl (lv_room (Nat.le_of_ble_eq_true rfl)) dX10_wall_12 ⟨(Nat.le_of_ble_eq_true rfl), (Nat.le_of_ble_eq_true rfl)⟩) hP hD hS hA [] [0, 1, 2, 3, 4, 5, 6] rfl rfl rfl (by decide) (fun u_8 H locs h_9 hP hD hS => ?_)
  have hP : va_P g.1 vwCl [(aI g p3 6 st), (aI g p4 6 me), (oX8 s0 h0 a0 b0 e0), (oX4 h0 q0 q1 mo), (aI g q0 24 f), (oX10 x0 y0 ta z0 p0 dr pa to_ s0 im ki tr v0 rf), (oX6 p0 p1 p2 p3 p4 (nI w))] H := hP
  have hD : va_D A [(aI g p3 6 st), (aI g p4 6 me), (oX8 s0 h0 a0 b0 e0), (oX4 h0 q0 q1 mo), (aI g q0 24 f), (oX10 x0 y0 ta z0 p0 dr pa to_ s0 im ki tr v0 rf), (oX6 p0 p1 p2 p3 p4 (nI w))] := hD
  refine lv_iload_n hx hb dX10_wall_15 rfl (lv_at hl 2 rfl) ?_
  refine lv_tableOut (tgt := 80) hx hb dX10_wall_16 (by decide) (by decide) ?_
  refine lv_aload_n hx hb dX10_wall_80 rfl (lv_at hl 0 rfl) ?_
  refine va_get (v := .ref s0) (T := TX10) (N := 13) hx hb hts inX10 hown hK hP 5 rfl rfl 7 (by decide) f39 (fun _ h9 => h9) rfl dX10_wall_81 ?_
  refine va_get (v := .ref h0) (T := TX8) (N := 4) hx hb hts inX8 hown hK hP 2 rfl rfl 0 (by decide) f66 (fun _ h9 => h9) rfl dX10_wall_84 ?_
  refine va_get (v := .ref q0) (T := TX4) (N := 3) hx hb hts inX4 hown hK hP 3 rfl rfl 0 (by decide) f111 (fun _ h9 => h9) rfl dX10_wall_87 ?_
  refine lv_bipush (v := 18) hx hb dX10_wall_90 (by decide) ?_
  refine lv_iload_n hx hb dX10_wall_92 rfl (lv_at hl 1 rfl) ?_
  refine lv_iadd hx hb dX10_wall_93 ?_
  refine he_top (nI (18 + j)) (nI_add 18 j) ?_
  refine he_iald hx hb hK hP 4 rfl (18 + j) rfl (by first | assumption | decide | omega) (by first | decide | assumption) (f (18 + j)) rfl dX10_wall_94 ?_
  have hP := hP.sub (ws' := [(oX10 x0 y0 ta z0 p0 dr pa to_ s0 im ki tr v0 rf), (oX6 p0 p1 p2 p3 p4 (nI w)), (aI g p3 6 st), (aI g p4 6 me), (oX8 s0 h0 a0 b0 e0), (oX4 h0 q0 q1 mo), (aI g q0 24 f)]) [5, 6, 0, 1, 2, 3, 4] rfl
  have hD := hD.sub (ws' := [(oX10 x0 y0 ta z0 p0 dr pa to_ s0 im ki tr v0 rf), (oX6 p0 p1 p2 p3 p4 (nI w)), (aI g p3 6 st), (aI g p4 6 me), (oX8 s0 h0 a0 b0 e0), (oX4 h0 q0 q1 mo), (aI g q0 24 f)]) [5, 6, 0, 1, 2, 3, 4] (by decide) rfl
  exact he_ri hQ hx hb hr hlk hP hD hS dX10_wall_95 (Nat.le_of_ble_eq_true rfl) (Nat.le_of_ble_eq_true rfl) (()) (rfl) (trivial)
set_option maxHeartbeats 4000000 in
set_option maxRecDepth 100000 in
theorem g_X10_rule (l : Launch) (g : he_G) (x0 : Nat) (y0 : Nat) (z0 : Nat) (p0 : Nat) (dr : Nat) (pa : Nat) (s0 : Nat) (im : Nat) (tr : Nat) (v0 : Nat) (rf : Nat) (nt : Nat) (ta : Int32) (ki : Int32) (k : Nat) (t0 : Nat) (t1 : Nat) (t2 : Nat) (pw : Int32) (pd : Nat → Int32) (wb : Nat → Int32) (pf : Nat → Option Nat) (ci : Nat) (hci : ci < nt) (hnt : nt ≤ 6) (hk : k ≤ 6) (hpf : pf ci = some t0) : he_I l yX10_rule wsX10_rule 2 46 0 0 g [.ref x0, .int (nI ci), .int (nI k)] [(oX10 x0 y0 ta z0 p0 dr pa (nI nt) s0 im ki tr v0 rf), (aP g pa 7 pf), (oX5 t0 t1 t2 pw), (aI g t1 6 pd), (aI g t2 36 wb)] (fun (r : Int32) (u : Unit) => True) (fun (u : Unit) => [(oX10 x0 y0 ta z0 p0 dr pa (nI nt) s0 im ki tr v0 rf), (aP g pa 7 pf), (oX5 t0 t1 t2 pw), (aI g t1 6 pd), (aI g t2 36 wb)]) := by
  refine he_begin (l := l) (g := g) (y := yX10_rule) (wl := wsX10_rule) (fr := 2) (lo := 46) (mc := 0) (ms := 0) (av := [.ref x0, .int (nI ci), .int (nI k)]) (ws := [(oX10 x0 y0 ta z0 p0 dr pa (nI nt) s0 im ki tr v0 rf), (aP g pa 7 pf), (oX5 t0 t1 t2 pw), (aI g t1 6 pd), (aI g t2 36 wb)]) (cc := cX10_rule) (maxL := 3) (ret := (some .int)) (fun A => va_Qi (fun (r : Int32) (u : Unit) => True) (fun u t => he_post g A ((fun (u : Unit) => [(oX10 x0 y0 ta z0 p0 dr pa (nI nt) s0 im ki tr v0 rf), (aP g pa 7 pf), (oX5 t0 t1 t2 pw), (aI g t1 6 pd), (aI g t2 36 wb)]) u) t) A) (by decide) rfl (Nat.le_of_ble_eq_true rfl) ?_
  intro p e s m args below meth c A ls H locs Q hQ hB
  obtain ⟨hx, hb, hr, hml, hown, hts, hlk, hin, hP, hK, hD, hS, hA, hE, hl⟩ := hB
  have hl : lv_has ls 3 [(0, .ref x0), (1, .int (nI ci)), (2, .int (nI k))] := hl
  have f32 := hts (.fieldLink RX10 32 "HiredEnemy" "pacts" "[LHiredEnemy$Pact;") (iwoX10_rule (k := 0) rfl)
  have inX10 : ∀ w ∈ wsX100, w ∈ wsX10_rule := innX10_rule_X10
  refine lv_aload_n hx hb dX10_rule_0 rfl (lv_at hl 0 rfl) ?_
  refine lv_iload_n hx hb dX10_rule_1 rfl (lv_at hl 1 rfl) ?_
  refine he_cv (wc := [(oX10 x0 y0 ta z0 p0 dr pa (nI nt) s0 im ki tr v0 rf)]) (wr := [(aP g pa 7 pf), (oX5 t0 t1 t2 pw), (aI g t1 6 pd), (aI g t2 36 wb)]) (va_runV (As := [.int (nI ci)]) (rest := []) ⟨hx, hb, hml, hown, hts⟩ (g_X10_demandContract1 l g x0 y0 z0 p0 dr pa s0 im tr v0 rf ta (nI nt) ki (nI ci) (wall_in hci (by omega)) H.size) (cwV 1 hts gX10_rule_X10_demandContract rfl rfl rfl (by decide +kernel) ⟨Nat.le_of_ble_eq_true rfl, Nat.le_of_ble_eq_true rfl⟩) (he_preV (wc := [(oX10 x0 y0 ta z0 p0 dr pa (nI nt) s0 im ki tr v0 rf)]) hK hP hD hS hA hE [0] rfl rfl 0 rfl rfl) rfl rfl hl.1 rfl (lv_room (Nat.le_of_ble_eq_true rfl)) dX10_rule_2 ⟨(Nat.le_of_ble_eq_true rfl), (Nat.le_of_ble_eq_true rfl)⟩) hP hD hS hA [0] [1, 2, 3, 4] rfl rfl rfl (by decide) (fun u_2 H locs h_3 hP hD hS => ?_)
  have hP : va_P g.1 vwCl [(aP g pa 7 pf), (oX5 t0 t1 t2 pw), (aI g t1 6 pd), (aI g t2 36 wb), (oX10 x0 y0 ta z0 p0 dr pa (nI nt) s0 im ki tr v0 rf)] H := hP
  have hD : va_D A [(aP g pa 7 pf), (oX5 t0 t1 t2 pw), (aI g t1 6 pd), (aI g t2 36 wb), (oX10 x0 y0 ta z0 p0 dr pa (nI nt) s0 im ki tr v0 rf)] := hD
  refine lv_aload_n hx hb dX10_rule_5 rfl (lv_at hl 0 rfl) ?_
  refine lv_iload_n hx hb dX10_rule_6 rfl (lv_at hl 2 rfl) ?_
  refine lv_iconst (v := 0) hx hb dX10_rule_7 (by decide) ?_
  refine lv_bipush (v := 6) hx hb dX10_rule_8 (by decide) ?_
  refine he_ci (wc := []) (wr := [(aP g pa 7 pf), (oX5 t0 t1 t2 pw), (aI g t1 6 pd), (aI g t2 36 wb), (oX10 x0 y0 ta z0 p0 dr pa (nI nt) s0 im ki tr v0 rf)]) (va_runS (As := [.int (nI k), .int 0, .int 6]) (rest := [.ref x0]) ⟨hx, hb, hml, hown, hts⟩ (c_X10_within l g (nI k) 0 6 H.size) (va_cwS 3 hts gX10_rule_X10_within rfl rfl rfl (by decide +kernel) ⟨Nat.le_of_ble_eq_true rfl, Nat.le_of_ble_eq_true rfl⟩) (he_preS (wc := []) hK hP hD hS hA hE [] rfl rfl) rfl rfl hl.1 rfl (lv_room (Nat.le_of_ble_eq_true rfl)) dX10_rule_10 ⟨(Nat.le_of_ble_eq_true rfl), (Nat.le_of_ble_eq_true rfl)⟩) hP hD hS hA [] [0, 1, 2, 3, 4] rfl rfl rfl (by decide) (fun r_4 u_5 H locs h_6 hP hD hS => ?_)
  subst h_6
  have hP : va_P g.1 vwCl [(aP g pa 7 pf), (oX5 t0 t1 t2 pw), (aI g t1 6 pd), (aI g t2 36 wb), (oX10 x0 y0 ta z0 p0 dr pa (nI nt) s0 im ki tr v0 rf)] H := hP
  have hD : va_D A [(aP g pa 7 pf), (oX5 t0 t1 t2 pw), (aI g t1 6 pd), (aI g t2 36 wb), (oX10 x0 y0 ta z0 p0 dr pa (nI nt) s0 im ki tr v0 rf)] := hD
  refine he_top (1) (he_within_in (a0 := 0) (B := 6) rfl rfl (by omega) (by omega) (by decide)) ?_
  refine he_cv (wc := []) (wr := [(aP g pa 7 pf), (oX5 t0 t1 t2 pw), (aI g t1 6 pd), (aI g t2 36 wb), (oX10 x0 y0 ta z0 p0 dr pa (nI nt) s0 im ki tr v0 rf)]) (va_runV (As := [.int 1]) (rest := []) ⟨hx, hb, hml, hown, hts⟩ (c_X10_demand1 l g x0 H.size) (cwV 1 hts gX10_rule_X10_demand rfl rfl rfl (by decide +kernel) ⟨Nat.le_of_ble_eq_true rfl, Nat.le_of_ble_eq_true rfl⟩) (he_preV (wc := []) hK hP hD hS hA hE [] rfl rfl 4 rfl rfl) rfl rfl hl.1 rfl (lv_room (Nat.le_of_ble_eq_true rfl)) dX10_rule_13 ⟨(Nat.le_of_ble_eq_true rfl), (Nat.le_of_ble_eq_true rfl)⟩) hP hD hS hA [] [0, 1, 2, 3, 4] rfl rfl rfl (by decide) (fun u_8 H locs h_9 hP hD hS => ?_)
  have hP : va_P g.1 vwCl [(aP g pa 7 pf), (oX5 t0 t1 t2 pw), (aI g t1 6 pd), (aI g t2 36 wb), (oX10 x0 y0 ta z0 p0 dr pa (nI nt) s0 im ki tr v0 rf)] H := hP
  have hD : va_D A [(aP g pa 7 pf), (oX5 t0 t1 t2 pw), (aI g t1 6 pd), (aI g t2 36 wb), (oX10 x0 y0 ta z0 p0 dr pa (nI nt) s0 im ki tr v0 rf)] := hD
  refine lv_aload_n hx hb dX10_rule_16 rfl (lv_at hl 0 rfl) ?_
  refine va_get (v := .ref pa) (T := TX10) (N := 13) hx hb hts inX10 hown hK hP 4 rfl rfl 5 (by decide) f32 (fun _ h9 => h9) rfl dX10_rule_17 ?_
  refine lv_iload_n hx hb dX10_rule_20 rfl (lv_at hl 1 rfl) ?_
  refine he_ald hx hb 2 rfl hK hP 0 rfl (ci) rfl (by first | assumption | decide | omega) (by first | decide | assumption) (.ref t0) (by rw [hpf]; rfl) dX10_rule_21 ?_
  refine lv_iload_n hx hb dX10_rule_22 rfl (lv_at hl 2 rfl) ?_
  refine he_ci (wc := [(oX5 t0 t1 t2 pw), (aI g t1 6 pd), (aI g t2 36 wb)]) (wr := [(aP g pa 7 pf), (oX10 x0 y0 ta z0 p0 dr pa (nI nt) s0 im ki tr v0 rf)]) (va_runV (As := [.int (nI k)]) (rest := []) ⟨hx, hb, hml, hown, hts⟩ (g_X5_answer l g t0 t1 t2 pw pd wb k (by first | assumption | decide | omega) H.size) (cwV 1 hts gX10_rule_X5_answer rfl rfl rfl (by decide +kernel) ⟨Nat.le_of_ble_eq_true rfl, Nat.le_of_ble_eq_true rfl⟩) (he_preV (wc := [(oX5 t0 t1 t2 pw), (aI g t1 6 pd), (aI g t2 36 wb)]) hK hP hD hS hA hE [1, 2, 3] rfl rfl 1 rfl rfl) rfl rfl hl.1 rfl (lv_room (Nat.le_of_ble_eq_true rfl)) dX10_rule_23 ⟨(Nat.le_of_ble_eq_true rfl), (Nat.le_of_ble_eq_true rfl)⟩) hP hD hS hA [1, 2, 3] [0, 4] rfl rfl rfl (by decide) (fun r_10 u_11 H locs h_12 hP hD hS => ?_)
  have hP : va_P g.1 vwCl [(aP g pa 7 pf), (oX10 x0 y0 ta z0 p0 dr pa (nI nt) s0 im ki tr v0 rf), (oX5 t0 t1 t2 pw), (aI g t1 6 pd), (aI g t2 36 wb)] H := hP
  have hD : va_D A [(aP g pa 7 pf), (oX10 x0 y0 ta z0 p0 dr pa (nI nt) s0 im ki tr v0 rf), (oX5 t0 t1 t2 pw), (aI g t1 6 pd), (aI g t2 36 wb)] := hD
  have hP := hP.sub (ws' := [(oX10 x0 y0 ta z0 p0 dr pa (nI nt) s0 im ki tr v0 rf), (aP g pa 7 pf), (oX5 t0 t1 t2 pw), (aI g t1 6 pd), (aI g t2 36 wb)]) [1, 0, 2, 3, 4] rfl
  have hD := hD.sub (ws' := [(oX10 x0 y0 ta z0 p0 dr pa (nI nt) s0 im ki tr v0 rf), (aP g pa 7 pf), (oX5 t0 t1 t2 pw), (aI g t1 6 pd), (aI g t2 36 wb)]) [1, 0, 2, 3, 4] (by decide) rfl
  exact he_ri hQ hx hb hr hlk hP hD hS dX10_rule_26 (Nat.le_of_ble_eq_true rfl) (Nat.le_of_ble_eq_true rfl) (()) (rfl) (trivial)
