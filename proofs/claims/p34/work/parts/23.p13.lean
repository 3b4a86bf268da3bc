section
set_option maxHeartbeats 4000000 in
set_option maxRecDepth 100000 in
theorem p_X10_put (l : Launch) (g : he_G) (x0 : Nat) (y0 : Nat) (z0 : Nat) (p0 : Nat) (dr : Nat) (pa : Nat) (s0 : Nat) (im : Nat) (tr : Nat) (v0 : Nat) (rf : Nat) (k : Nat) (to_ : Int32) (ki : Int32) (tp : Nat → Int32) (v : Int32) (hk : k + 4 ≤ 500) : he_V l yX10_putOnTape wsX10_putOnTape 0 0 0 0 g [.ref x0, .int v] [(oX10 x0 y0 (nI k) z0 p0 dr pa to_ s0 im ki tr v0 rf), (aB g y0 500 tp)] (fun (u : Unit) => True) (fun (u : Unit) => [(oX10 x0 y0 (nI (k + 4)) z0 p0 dr pa to_ s0 im ki tr v0 rf), (aB g y0 500 (ptT tp k v))]) := by
  refine he_begin (l := l) (g := g) (y := yX10_putOnTape) (wl := wsX10_putOnTape) (fr := 0) (lo := 0) (mc := 0) (ms := 0) (av := [.ref x0, .int v]) (ws := [(oX10 x0 y0 (nI k) z0 p0 dr pa to_ s0 im ki tr v0 rf), (aB g y0 500 tp)]) (cc := cX10_putOnTape) (maxL := 3) (ret := none) (fun A => va_Qv (fun (u : Unit) => True) (fun u t => he_post g A ((fun (u : Unit) => [(oX10 x0 y0 (nI (k + 4)) z0 p0 dr pa to_ s0 im ki tr v0 rf), (aB g y0 500 (ptT tp k v))]) u) t) A) (by decide) rfl (Nat.le_of_ble_eq_true rfl) ?_
  intro p e s m args below meth c A ls H locs Q hQ hB
  obtain ⟨hx, hb, hr, hml, hown, hts, hlk, hin, hP, hK, hD, hS, hA, hE, hl⟩ := hB
  have hl : lv_has ls 3 [(0, .ref x0), (1, .int v)] := hl
  have f73 := hts (.fieldLink RX10 73 "HiredEnemy" "taped" "I") (iwoX10_putOnTape (k := 0) rfl)
  have inX10 : ∀ w ∈ wsX100, w ∈ wsX10_putOnTape := innX10_putOnTape_X10
  have f9 := hts (.fieldLink RX10 9 "HiredEnemy" "tape" "[B") (iwoX10_putOnTape (k := 1) rfl)
  refine lv_bipush (v := 24) hx hb dX10_putOnTape_0 (by decide) ?_
  refine lv_istore_n (lv' := [(2, .int 24), (0, .ref x0), (1, .int v)]) hx hb dX10_putOnTape_2 rfl hl (by decide) rfl (fun ls hl => ?_)
  refine lv_iload_n hx hb dX10_putOnTape_3 rfl (lv_at hl 0 rfl) ?_
  refine lv_if_lt (tgt := 48) hx hb dX10_putOnTape_4 (by decide) (fun c_1 => ?_) (fun c_1 => ?_)
  · exact absurd c_1 (by decide)
  · refine lv_aload_n hx hb dX10_putOnTape_7 rfl (lv_at hl 1 rfl) ?_
    refine va_get (v := .int (nI k)) (T := TX10) (N := 13) hx hb hts inX10 hown hK hP 0 rfl rfl 1 (by decide) f73 (fun _ h9 => h9) rfl dX10_putOnTape_8 ?_
    refine lv_aload_n hx hb dX10_putOnTape_11 rfl (lv_at hl 1 rfl) ?_
    refine va_get (v := .ref y0) (T := TX10) (N := 13) hx hb hts inX10 hown hK hP 0 rfl rfl 0 (by decide) f9 (fun _ h9 => h9) rfl dX10_putOnTape_12 ?_
    refine va_alen (v := 500) hx hb hK hP 1 0 rfl rfl rfl dX10_putOnTape_15 ?_
    refine lv_icmp_ge (tgt := 48) hx hb dX10_putOnTape_16 (by decide) (fun c_2 => ?_) (fun c_2 => ?_)
    · exact absurd c_2 (fun h9 => absurd ((he_cle (a := 500) (b := k) (by decide) rfl (by decide) (by omega)).mp h9) (by omega))
    · refine lv_aload_n hx hb dX10_putOnTape_19 rfl (lv_at hl 1 rfl) ?_
      refine va_get (v := .ref y0) (T := TX10) (N := 13) hx hb hts inX10 hown hK hP 0 rfl rfl 0 (by decide) f9 (fun _ h9 => h9) rfl dX10_putOnTape_20 ?_
      refine lv_aload_n hx hb dX10_putOnTape_23 rfl (lv_at hl 1 rfl) ?_
      refine va_get (v := .int (nI k)) (T := TX10) (N := 13) hx hb hts inX10 hown hK hP 0 rfl rfl 1 (by decide) f73 (fun _ h9 => h9) rfl dX10_putOnTape_24 ?_
      refine lv_iload_n hx hb dX10_putOnTape_27 rfl (lv_at hl 2 rfl) ?_
      refine lv_iload_n hx hb dX10_putOnTape_28 rfl (lv_at hl 0 rfl) ?_
      obtain ⟨us_3, eus_3⟩ : ∃ z : Int32, (Int32.toUInt32 v >>> (Int32.toUInt32 24 &&& Int32.toUInt32 31)).toInt32 = z := ⟨_, rfl⟩
      refine lv_iushr (v := us_3) hx hb dX10_putOnTape_29 eus_3 ?_
      obtain ⟨ib_4, eib_4⟩ : ∃ z : Int32, (Int32.toInt8 us_3).toInt32 = z := ⟨_, rfl⟩
      refine lv_i2b (v := ib_4) hx hb dX10_putOnTape_30 eib_4 ?_
      refine he_bast hx hb hK hP hD hS 1 rfl (k) rfl (by first | assumption | decide | omega) (by first | decide | assumption) dX10_putOnTape_31 (fun H locs hP hD hS => ?_)
      have hP : va_P g.1 vwCl [(oX10 x0 y0 (nI k) z0 p0 dr pa to_ s0 im ki tr v0 rf), (aB g y0 500 (upd tp k (vp_nar .byte ib_4)))] H := hP
      have hD : va_D A [(oX10 x0 y0 (nI k) z0 p0 dr pa to_ s0 im ki tr v0 rf), (aB g y0 500 (upd tp k (vp_nar .byte ib_4)))] := hD
      have hb9 : vp_nar .byte ib_4 = sbI (btN v 0) := (by rw [← eib_4, ← eus_3]; exact bc_put (by decide))
      rw [hb9] at hP hD
      have hP : va_P g.1 vwCl [(oX10 x0 y0 (nI k) z0 p0 dr pa to_ s0 im ki tr v0 rf), (aB g y0 500 (upd tp k (sbI (btN v 0))))] H := hP
      have hD : va_D A [(oX10 x0 y0 (nI k) z0 p0 dr pa to_ s0 im ki tr v0 rf), (aB g y0 500 (upd tp k (sbI (btN v 0))))] := hD
      refine lv_aload_n hx hb dX10_putOnTape_32 rfl (lv_at hl 1 rfl) ?_
      refine lv_dup hx hb dX10_putOnTape_33 rfl ?_
      refine va_get (v := .int (nI k)) (T := TX10) (N := 13) hx hb hts inX10 hown hK hP 0 rfl rfl 1 (by decide) f73 (fun _ h9 => h9) rfl dX10_putOnTape_34 ?_
      refine lv_iconst (v := 1) hx hb dX10_putOnTape_37 (by decide) ?_
      refine lv_iadd hx hb dX10_putOnTape_38 ?_
      refine he_top (nI (k + 1)) (nI_add k 1) ?_
      refine va_put (v := .int (nI (k + 1))) (ty := .int) (T := TX10) (N := 13) hx hb hts inX10 tyX10 tyX10_ok nmX10 hown hK hP hD hS 0 rfl rfl 1 (by decide) f73 (fun _ h9 => h9) rfl (by decide +kernel) rfl rfl (Nat.le_of_ble_eq_true rfl) dX10_putOnTape_39 (fun H locs hP hD hS => ?_)
      have hP : va_P g.1 vwCl [(oX10 x0 y0 (nI (k + 1)) z0 p0 dr pa to_ s0 im ki tr v0 rf), (aB g y0 500 (upd tp k (sbI (btN v 0))))] H := hP
      have hD : va_D A [(oX10 x0 y0 (nI (k + 1)) z0 p0 dr pa to_ s0 im ki tr v0 rf), (aB g y0 500 (upd tp k (sbI (btN v 0))))] := hD
      refine lv_iinc (v := 16) (lv' := [(2, .int 16), (0, .ref x0), (1, .int v)]) hx hb dX10_putOnTape_42 hl (k := 0) rfl (by decide) (by decide) rfl (fun ls hl => ?_)
      refine lv_goto (tgt := 3) hx hb dX10_putOnTape_45 (by decide) ?_
      refine lv_iload_n hx hb dX10_putOnTape_3 rfl (lv_at hl 0 rfl) ?_
      refine lv_if_lt (tgt := 48) hx hb dX10_putOnTape_4 (by decide) (fun c_5 => ?_) (fun c_5 => ?_)
      · exact absurd c_5 (by decide)
      · refine lv_aload_n hx hb dX10_putOnTape_7 rfl (lv_at hl 1 rfl) ?_
        refine va_get (v := .int (nI (k + 1))) (T := TX10) (N := 13) hx hb hts inX10 hown hK hP 0 rfl rfl 1 (by decide) f73 (fun _ h9 => h9) rfl dX10_putOnTape_8 ?_
        refine lv_aload_n hx hb dX10_putOnTape_11 rfl (lv_at hl 1 rfl) ?_
        refine va_get (v := .ref y0) (T := TX10) (N := 13) hx hb hts inX10 hown hK hP 0 rfl rfl 0 (by decide) f9 (fun _ h9 => h9) rfl dX10_putOnTape_12 ?_
        refine va_alen (v := 500) hx hb hK hP 1 0 rfl rfl rfl dX10_putOnTape_15 ?_
        refine lv_icmp_ge (tgt := 48) hx hb dX10_putOnTape_16 (by decide) (fun c_6 => ?_) (fun c_6 => ?_)
        · exact absurd c_6 (fun h9 => absurd ((he_cle (a := 500) (b := k + 1) (by decide) rfl (by decide) (by omega)).mp h9) (by omega))
        · refine lv_aload_n hx hb dX10_putOnTape_19 rfl (lv_at hl 1 rfl) ?_
          refine va_get (v := .ref y0) (T := TX10) (N := 13) hx hb hts inX10 hown hK hP 0 rfl rfl 0 (by decide) f9 (fun _ h9 => h9) rfl dX10_putOnTape_20 ?_
          refine lv_aload_n hx hb dX10_putOnTape_23 rfl (lv_at hl 1 rfl) ?_
          refine va_get (v := .int (nI (k + 1))) (T := TX10) (N := 13) hx hb hts inX10 hown hK hP 0 rfl rfl 1 (by decide) f73 (fun _ h9 => h9) rfl dX10_putOnTape_24 ?_
          refine lv_iload_n hx hb dX10_putOnTape_27 rfl (lv_at hl 2 rfl) ?_
          refine lv_iload_n hx hb dX10_putOnTape_28 rfl (lv_at hl 0 rfl) ?_
          obtain ⟨us_7, eus_7⟩ : ∃ z : Int32, (Int32.toUInt32 v >>> (Int32.toUInt32 16 &&& Int32.toUInt32 31)).toInt32 = z := ⟨_, rfl⟩
          refine lv_iushr (v := us_7) hx hb dX10_putOnTape_29 eus_7 ?_
          obtain ⟨ib_8, eib_8⟩ : ∃ z : Int32, (Int32.toInt8 us_7).toInt32 = z := ⟨_, rfl⟩
          refine lv_i2b (v := ib_8) hx hb dX10_putOnTape_30 eib_8 ?_
          refine he_bast hx hb hK hP hD hS 1 rfl (k + 1) rfl (by first | assumption | decide | omega) (by first | decide | assumption) dX10_putOnTape_31 (fun H locs hP hD hS => ?_)
          have hP : va_P g.1 vwCl [(oX10 x0 y0 (nI (k + 1)) z0 p0 dr pa to_ s0 im ki tr v0 rf), (aB g y0 500 (upd (upd tp k (sbI (btN v 0))) (k + 1) (vp_nar .byte ib_8)))] H := hP
          have hD : va_D A [(oX10 x0 y0 (nI (k + 1)) z0 p0 dr pa to_ s0 im ki tr v0 rf), (aB g y0 500 (upd (upd tp k (sbI (btN v 0))) (k + 1) (vp_nar .byte ib_8)))] := hD
          have hb9 : vp_nar .byte ib_8 = sbI (btN v 1) := (by rw [← eib_8, ← eus_7]; exact bc_put (by decide))
          rw [hb9] at hP hD
          have hP : va_P g.1 vwCl [(oX10 x0 y0 (nI (k + 1)) z0 p0 dr pa to_ s0 im ki tr v0 rf), (aB g y0 500 (upd (upd tp k (sbI (btN v 0))) (k + 1) (sbI (btN v 1))))] H := hP
          have hD : va_D A [(oX10 x0 y0 (nI (k + 1)) z0 p0 dr pa to_ s0 im ki tr v0 rf), (aB g y0 500 (upd (upd tp k (sbI (btN v 0))) (k + 1) (sbI (btN v 1))))] := hD
          refine lv_aload_n hx hb dX10_putOnTape_32 rfl (lv_at hl 1 rfl) ?_
          refine lv_dup hx hb dX10_putOnTape_33 rfl ?_
          refine va_get (v := .int (nI (k + 1))) (T := TX10) (N := 13) hx hb hts inX10 hown hK hP 0 rfl rfl 1 (by decide) f73 (fun _ h9 => h9) rfl dX10_putOnTape_34 ?_
          refine lv_iconst (v := 1) hx hb dX10_putOnTape_37 (by decide) ?_
          refine lv_iadd hx hb dX10_putOnTape_38 ?_
          refine he_top (nI (k + 1 + 1)) (nI_add (k + 1) 1) ?_
          refine va_put (v := .int (nI (k + 1 + 1))) (ty := .int) (T := TX10) (N := 13) hx hb hts inX10 tyX10 tyX10_ok nmX10 hown hK hP hD hS 0 rfl rfl 1 (by decide) f73 (fun _ h9 => h9) rfl (by decide +kernel) rfl rfl (Nat.le_of_ble_eq_true rfl) dX10_putOnTape_39 (fun H locs hP hD hS => ?_)
          have hP : va_P g.1 vwCl [(oX10 x0 y0 (nI (k + 1 + 1)) z0 p0 dr pa to_ s0 im ki tr v0 rf), (aB g y0 500 (upd (upd tp k (sbI (btN v 0))) (k + 1) (sbI (btN v 1))))] H := hP
          have hD : va_D A [(oX10 x0 y0 (nI (k + 1 + 1)) z0 p0 dr pa to_ s0 im ki tr v0 rf), (aB g y0 500 (upd (upd tp k (sbI (btN v 0))) (k + 1) (sbI (btN v 1))))] := hD
          refine lv_iinc (v := 8) (lv' := [(2, .int 8), (0, .ref x0), (1, .int v)]) hx hb dX10_putOnTape_42 hl (k := 0) rfl (by decide) (by decide) rfl (fun ls hl => ?_)
          refine lv_goto (tgt := 3) hx hb dX10_putOnTape_45 (by decide) ?_
          refine lv_iload_n hx hb dX10_putOnTape_3 rfl (lv_at hl 0 rfl) ?_
          refine lv_if_lt (tgt := 48) hx hb dX10_putOnTape_4 (by decide) (fun c_9 => ?_) (fun c_9 => ?_)
          · exact absurd c_9 (by decide)
          · refine lv_aload_n hx hb dX10_putOnTape_7 rfl (lv_at hl 1 rfl) ?_
            refine va_get (v := .int (nI (k + 1 + 1))) (T := TX10) (N := 13) hx hb hts inX10 hown hK hP 0 rfl rfl 1 (by decide) f73 (fun _ h9 => h9) rfl dX10_putOnTape_8 ?_
            refine lv_aload_n hx hb dX10_putOnTape_11 rfl (lv_at hl 1 rfl) ?_
            refine va_get (v := .ref y0) (T := TX10) (N := 13) hx hb hts inX10 hown hK hP 0 rfl rfl 0 (by decide) f9 (fun _ h9 => h9) rfl dX10_putOnTape_12 ?_
            refine va_alen (v := 500) hx hb hK hP 1 0 rfl rfl rfl dX10_putOnTape_15 ?_
            refine lv_icmp_ge (tgt := 48) hx hb dX10_putOnTape_16 (by decide) (fun c_10 => ?_) (fun c_10 => ?_)
            · exact absurd c_10 (fun h9 => absurd ((he_cle (a := 500) (b := k + 1 + 1) (by decide) rfl (by decide) (by omega)).mp h9) (by omega))
            · refine lv_aload_n hx hb dX10_putOnTape_19 rfl (lv_at hl 1 rfl) ?_
              refine va_get (v := .ref y0) (T := TX10) (N := 13) hx hb hts inX10 hown hK hP 0 rfl rfl 0 (by decide) f9 (fun _ h9 => h9) rfl dX10_putOnTape_20 ?_
              refine lv_aload_n hx hb dX10_putOnTape_23 rfl (lv_at hl 1 rfl) ?_
              refine va_get (v := .int (nI (k + 1 + 1))) (T := TX10) (N := 13) hx hb hts inX10 hown hK hP 0 rfl rfl 1 (by decide) f73 (fun _ h9 => h9) rfl dX10_putOnTape_24 ?_
              refine lv_iload_n hx hb dX10_putOnTape_27 rfl (lv_at hl 2 rfl) ?_
              refine lv_iload_n hx hb dX10_putOnTape_28 rfl (lv_at hl 0 rfl) ?_
              obtain ⟨us_11, eus_11⟩ : ∃ z : Int32, (Int32.toUInt32 v >>> (Int32.toUInt32 8 &&& Int32.toUInt32 31)).toInt32 = z := ⟨_, rfl⟩
              refine lv_iushr (v := us_11) hx hb dX10_putOnTape_29 eus_11 ?_
              obtain ⟨ib_12, eib_12⟩ : ∃ z : Int32, (Int32.toInt8 us_11).toInt32 = z := ⟨_, rfl⟩
              refine lv_i2b (v := ib_12) hx hb dX10_putOnTape_30 eib_12 ?_
              refine he_bast hx hb hK hP hD hS 1 rfl (k + 1 + 1) rfl (by first | assumption | decide | omega) (by first | decide | assumption) dX10_putOnTape_31 (fun H locs hP hD hS => ?_)
              have hP : va_P g.1 vwCl [(oX10 x0 y0 (nI (k + 1 + 1)) z0 p0 dr pa to_ s0 im ki tr v0 rf), (aB g y0 500 (upd (upd (upd tp k (sbI (btN v 0))) (k + 1) (sbI (btN v 1))) (k + 1 + 1) (vp_nar .byte ib_12)))] H := hP
              have hD : va_D A [(oX10 x0 y0 (nI (k + 1 + 1)) z0 p0 dr pa to_ s0 im ki tr v0 rf), (aB g y0 500 (upd (upd (upd tp k (sbI (btN v 0))) (k + 1) (sbI (btN v 1))) (k + 1 + 1) (vp_nar .byte ib_12)))] := hD
              have hb9 : vp_nar .byte ib_12 = sbI (btN v 2) := (by rw [← eib_12, ← eus_11]; exact bc_put (by decide))
              rw [hb9] at hP hD
              have hP : va_P g.1 vwCl [(oX10 x0 y0 (nI (k + 1 + 1)) z0 p0 dr pa to_ s0 im ki tr v0 rf), (aB g y0 500 (upd (upd (upd tp k (sbI (btN v 0))) (k + 1) (sbI (btN v 1))) (k + 1 + 1) (sbI (btN v 2))))] H := hP
              have hD : va_D A [(oX10 x0 y0 (nI (k + 1 + 1)) z0 p0 dr pa to_ s0 im ki tr v0 rf), (aB g y0 500 (upd (upd (upd tp k (sbI (btN v 0))) (k + 1) (sbI (btN v 1))) (k + 1 + 1) (sbI (btN v 2))))] := hD
              refine lv_aload_n hx hb dX10_putOnTape_32 rfl (lv_at hl 1 rfl) ?_
              refine lv_dup hx hb dX10_putOnTape_33 rfl ?_
              refine va_get (v := .int (nI (k + 1 + 1))) (T := TX10) (N := 13) hx hb hts inX10 hown hK hP 0 rfl rfl 1 (by decide) f73 (fun _ h9 => h9) rfl dX10_putOnTape_34 ?_
              refine lv_iconst (v := 1) hx hb dX10_putOnTape_37 (by decide) ?_
              refine lv_iadd hx hb dX10_putOnTape_38 ?_
              refine he_top (nI (k + 1 + 1 + 1)) (nI_add (k + 1 + 1) 1) ?_
              refine va_put (v := .int (nI (k + 1 + 1 + 1))) (ty := .int) (T := TX10) (N := 13) hx hb hts inX10 tyX10 tyX10_ok nmX10 hown hK hP hD hS 0 rfl rfl 1 (by decide) f73 (fun _ h9 => h9) rfl (by decide +kernel) rfl rfl (Nat.le_of_ble_eq_true rfl) dX10_putOnTape_39 (fun H locs hP hD hS => ?_)
              have hP : va_P g.1 vwCl [(oX10 x0 y0 (nI (k + 1 + 1 + 1)) z0 p0 dr pa to_ s0 im ki tr v0 rf), (aB g y0 500 (upd (upd (upd tp k (sbI (btN v 0))) (k + 1) (sbI (btN v 1))) (k + 1 + 1) (sbI (btN v 2))))] H := hP
              have hD : va_D A [(oX10 x0 y0 (nI (k + 1 + 1 + 1)) z0 p0 dr pa to_ s0 im ki tr v0 rf), (aB g y0 500 (upd (upd (upd tp k (sbI (btN v 0))) (k + 1) (sbI (btN v 1))) (k + 1 + 1) (sbI (btN v 2))))] := hD
              refine lv_iinc (v := 0) (lv' := [(2, .int 0), (0, .ref x0), (1, .int v)]) hx hb dX10_putOnTape_42 hl (k := 0) rfl (by decide) (by decide) rfl (fun ls hl => ?_)
              refine lv_goto (tgt := 3) hx hb dX10_putOnTape_45 (by decide) ?_
              refine lv_iload_n hx hb dX10_putOnTape_3 rfl (lv_at hl 0 rfl) ?_
              refine lv_if_lt (tgt := 48) hx hb dX10_putOnTape_4 (by decide) (fun c_13 => ?_) (fun c_13 => ?_)
              · exact absurd c_13 (by decide)
              · refine lv_aload_n hx hb dX10_putOnTape_7 rfl (lv_at hl 1 rfl) ?_
                refine va_get (v := .int (nI (k + 1 + 1 + 1))) (T := TX10) (N := 13) hx hb hts inX10 hown hK hP 0 rfl rfl 1 (by decide) f73 (fun _ h9 => h9) rfl dX10_putOnTape_8 ?_
                refine lv_aload_n hx hb dX10_putOnTape_11 rfl (lv_at hl 1 rfl) ?_
                refine va_get (v := .ref y0) (T := TX10) (N := 13) hx hb hts inX10 hown hK hP 0 rfl rfl 0 (by decide) f9 (fun _ h9 => h9) rfl dX10_putOnTape_12 ?_
                refine va_alen (v := 500) hx hb hK hP 1 0 rfl rfl rfl dX10_putOnTape_15 ?_
                refine lv_icmp_ge (tgt := 48) hx hb dX10_putOnTape_16 (by decide) (fun c_14 => ?_) (fun c_14 => ?_)
                · exact absurd c_14 (fun h9 => absurd ((he_cle (a := 500) (b := k + 1 + 1 + 1) (by decide) rfl (by decide) (by omega)).mp h9) (by omega))
                · refine lv_aload_n hx hb dX10_putOnTape_19 rfl (lv_at hl 1 rfl) ?_
                  refine va_get (v := .ref y0) (T := TX10) (N := 13) hx hb hts inX10 hown hK hP 0 rfl rfl 0 (by decide) f9 (fun _ h9 => h9) rfl dX10_putOnTape_20 ?_
                  refine lv_aload_n hx hb dX10_putOnTape_23 rfl (lv_at hl 1 rfl) ?_
                  refine va_get (v := .int (nI (k + 1 + 1 + 1))) (T := TX10) (N := 13) hx hb hts inX10 hown hK hP 0 rfl rfl 1 (by decide) f73 (fun _ h9 => h9) rfl dX10_putOnTape_24 ?_
                  refine lv_iload_n hx hb dX10_putOnTape_27 rfl (lv_at hl 2 rfl) ?_
                  refine lv_iload_n hx hb dX10_putOnTape_28 rfl (lv_at hl 0 rfl) ?_
                  obtain ⟨us_15, eus_15⟩ : ∃ z : Int32, (Int32.toUInt32 v >>> (Int32.toUInt32 0 &&& Int32.toUInt32 31)).toInt32 = z := ⟨_, rfl⟩
                  refine lv_iushr (v := us_15) hx hb dX10_putOnTape_29 eus_15 ?_
                  obtain ⟨ib_16, eib_16⟩ : ∃ z : Int32, (Int32.toInt8 us_15).toInt32 = z := ⟨_, rfl⟩
                  refine lv_i2b (v := ib_16) hx hb dX10_putOnTape_30 eib_16 ?_
                  refine he_bast hx hb hK hP hD hS 1 rfl (k + 1 + 1 + 1) rfl (by first | assumption | decide | omega) (by first | decide | assumption) dX10_putOnTape_31 (fun H locs hP hD hS => ?_)
                  have hP : va_P g.1 vwCl [(oX10 x0 y0 (nI (k + 1 + 1 + 1)) z0 p0 dr pa to_ s0 im ki tr v0 rf), (aB g y0 500 (upd (upd (upd (upd tp k (sbI (btN v 0))) (k + 1) (sbI (btN v 1))) (k + 1 + 1) (sbI (btN v 2))) (k + 1 + 1 + 1) (vp_nar .byte ib_16)))] H := hP
                  have hD : va_D A [(oX10 x0 y0 (nI (k + 1 + 1 + 1)) z0 p0 dr pa to_ s0 im ki tr v0 rf), (aB g y0 500 (upd (upd (upd (upd tp k (sbI (btN v 0))) (k + 1) (sbI (btN v 1))) (k + 1 + 1) (sbI (btN v 2))) (k + 1 + 1 + 1) (vp_nar .byte ib_16)))] := hD
                  have hb9 : vp_nar .byte ib_16 = sbI (btN v 3) := (by rw [← eib_16, ← eus_15]; exact bc_put (by decide))
                  rw [hb9] at hP hD
                  have hP : va_P g.1 vwCl [(oX10 x0 y0 (nI (k + 1 + 1 + 1)) z0 p0 dr pa to_ s0 im ki tr v0 rf), (aB g y0 500 (upd (upd (upd (upd tp k (sbI (btN v 0))) (k + 1) (sbI (btN v 1))) (k + 1 + 1) (sbI (btN v 2))) (k + 1 + 1 + 1) (sbI (btN v 3))))] H := hP
                  have hD : va_D A [(oX10 x0 y0 (nI (k + 1 + 1 + 1)) z0 p0 dr pa to_ s0 im ki tr v0 rf), (aB g y0 500 (upd (upd (upd (upd tp k (sbI (btN v 0))) (k + 1) (sbI (btN v 1))) (k + 1 + 1) (sbI (btN v 2))) (k + 1 + 1 + 1) (sbI (btN v 3))))] := hD
                  refine lv_aload_n hx hb dX10_putOnTape_32 rfl (lv_at hl 1 rfl) ?_
                  refine lv_dup hx hb dX10_putOnTape_33 rfl ?_
                  refine va_get (v := .int (nI (k + 1 + 1 + 1))) (T := TX10) (N := 13) hx hb hts inX10 hown hK hP 0 rfl rfl 1 (by decide) f73 (fun _ h9 => h9) rfl dX10_putOnTape_34 ?_
                  refine lv_iconst (v := 1) hx hb dX10_putOnTape_37 (by decide) ?_
                  refine lv_iadd hx hb dX10_putOnTape_38 ?_
                  refine he_top (nI (k + 1 + 1 + 1 + 1)) (nI_add (k + 1 + 1 + 1) 1) ?_
                  refine va_put (v := .int (nI (k + 1 + 1 + 1 + 1))) (ty := .int) (T := TX10) (N := 13) hx hb hts inX10 tyX10 tyX10_ok nmX10 hown hK hP hD hS 0 rfl rfl 1 (by decide) f73 (fun _ h9 => h9) rfl (by decide +kernel) rfl rfl (Nat.le_of_ble_eq_true rfl) dX10_putOnTape_39 (fun H locs hP hD hS => ?_)
                  have hP : va_P g.1 vwCl [(oX10 x0 y0 (nI (k + 1 + 1 + 1 + 1)) z0 p0 dr pa to_ s0 im ki tr v0 rf), (aB g y0 500 (upd (upd (upd (upd tp k (sbI (btN v 0))) (k + 1) (sbI (btN v 1))) (k + 1 + 1) (sbI (btN v 2))) (k + 1 + 1 + 1) (sbI (btN v 3))))] H := hP
                  have hD : va_D A [(oX10 x0 y0 (nI (k + 1 + 1 + 1 + 1)) z0 p0 dr pa to_ s0 im ki tr v0 rf), (aB g y0 500 (upd (upd (upd (upd tp k (sbI (btN v 0))) (k + 1) (sbI (btN v 1))) (k + 1 + 1) (sbI (btN v 2))) (k + 1 + 1 + 1) (sbI (btN v 3))))] := hD
                  refine lv_iinc (v := (-8)) (lv' := [(2, .int (-8)), (0, .ref x0), (1, .int v)]) hx hb dX10_putOnTape_42 hl (k := 0) rfl (by decide) (by decide) rfl (fun ls hl => ?_)
                  refine lv_goto (tgt := 3) hx hb dX10_putOnTape_45 (by decide) ?_
                  refine lv_iload_n hx hb dX10_putOnTape_3 rfl (lv_at hl 0 rfl) ?_
                  refine lv_if_lt (tgt := 48) hx hb dX10_putOnTape_4 (by decide) (fun c_17 => ?_) (fun c_17 => ?_)
                  · exact he_rv hQ hx hb hr hlk hP hD hS dX10_putOnTape_48 (Nat.le_of_ble_eq_true rfl) (Nat.le_of_ble_eq_true rfl) (()) (rfl) (trivial)
                  · exact absurd (by decide) c_17
set_option maxHeartbeats 4000000 in
set_option maxRecDepth 100000 in
theorem p_X10_feed (l : Launch) (g : he_G) (x0 : Nat) (y0 : Nat) (z0 : Nat) (p0 : Nat) (dr : Nat) (pa : Nat) (s0 : Nat) (im : Nat) (tr : Nat) (v0 : Nat) (rf : Nat) (k : Nat) (to_ : Int32) (ki : Int32) (tp : Nat → Int32) (v1 : Int32) (v2 : Int32) (v3 : Int32) (v4 : Int32) (v5 : Int32) (hk : k + 20 ≤ 500) : he_I l yX10_feed wsX10_feed 1 22 0 0 g [.ref x0, .int v1, .int v2, .int v3, .int v4, .int v5] [(oX10 x0 y0 (nI k) z0 p0 dr pa to_ s0 im ki tr v0 rf), (aB g y0 500 tp)] (fun (r : Int32) (u : Unit) => r = nI (k + 4 + 4 + 4 + 4 + 4)) (fun (u : Unit) => [(oX10 x0 y0 (nI (k + 4 + 4 + 4 + 4 + 4)) z0 p0 dr pa to_ s0 im ki tr v0 rf), (aB g y0 500 (ptT5 tp k v1 v2 v3 v4 v5))]) := by
  refine he_begin (l := l) (g := g) (y := yX10_feed) (wl := wsX10_feed) (fr := 1) (lo := 22) (mc := 0) (ms := 0) (av := [.ref x0, .int v1, .int v2, .int v3, .int v4, .int v5]) (ws := [(oX10 x0 y0 (nI k) z0 p0 dr pa to_ s0 im ki tr v0 rf), (aB g y0 500 tp)]) (cc := cX10_feed) (maxL := 6) (ret := (some .int)) (fun A => va_Qi (fun (r : Int32) (u : Unit) => r = nI (k + 4 + 4 + 4 + 4 + 4)) (fun u t => he_post g A ((fun (u : Unit) => [(oX10 x0 y0 (nI (k + 4 + 4 + 4 + 4 + 4)) z0 p0 dr pa to_ s0 im ki tr v0 rf), (aB g y0 500 (ptT5 tp k v1 v2 v3 v4 v5))]) u) t) A) (by decide) rfl (Nat.le_of_ble_eq_true rfl) ?_
  intro p e s m args below meth c A ls H locs Q hQ hB
  obtain ⟨hx, hb, hr, hml, hown, hts, hlk, hin, hP, hK, hD, hS, hA, hE, hl⟩ := hB
  have hl : lv_has ls 6 [(0, .ref x0), (1, .int v1), (2, .int v2), (3, .int v3), (4, .int v4), (5, .int v5)] := hl
  have f73 := hts (.fieldLink RX10 73 "HiredEnemy" "taped" "I") (iwoX10_feed (k := 0) rfl)
  have inX10 : ∀ w ∈ wsX100, w ∈ wsX10_feed := innX10_feed_X10
  refine lv_aload_n hx hb dX10_feed_0 rfl (lv_at hl 0 rfl) ?_
  refine va_get (v := .int (nI k)) (T := TX10) (N := 13) hx hb hts inX10 hown hK hP 0 rfl rfl 1 (by decide) f73 (fun _ h9 => h9) rfl dX10_feed_1 ?_
  refine lv_bipush (v := 20) hx hb dX10_feed_4 (by decide) ?_
  refine lv_iadd hx hb dX10_feed_6 ?_
  refine he_top (nI (k + 20)) (nI_add k 20) ?_
  refine lv_sipush (v := 500) hx hb dX10_feed_7 (by decide) ?_
  refine lv_icmp_le (tgt := 15) hx hb dX10_feed_10 (by decide) (fun c_1 => ?_) (fun c_1 => ?_)
  · refine lv_aload_n hx hb dX10_feed_15 rfl (lv_at hl 0 rfl) ?_
    refine lv_iload_n hx hb dX10_feed_16 rfl (lv_at hl 1 rfl) ?_
    refine he_cv (wc := [(oX10 x0 y0 (nI k) z0 p0 dr pa to_ s0 im ki tr v0 rf), (aB g y0 500 tp)]) (wr := []) (va_runV (As := [.int v1]) (rest := []) ⟨hx, hb, hml, hown, hts⟩ (p_X10_put l g x0 y0 z0 p0 dr pa s0 im tr v0 rf k to_ ki tp v1 (by first | assumption | decide | omega) H.size) (cwV 1 hts gX10_feed_X10_putOnTape rfl rfl rfl (by decide +kernel) ⟨Nat.le_of_ble_eq_true rfl, Nat.le_of_ble_eq_true rfl⟩) (he_preV (wc := [(oX10 x0 y0 (nI k) z0 p0 dr pa to_ s0 im ki tr v0 rf), (aB g y0 500 tp)]) hK hP hD hS hA hE [0, 1] rfl rfl 0 rfl rfl) rfl rfl hl.1 rfl (lv_room (Nat.le_of_ble_eq_true rfl)) dX10_feed_17 ⟨(Nat.le_of_ble_eq_true rfl), (Nat.le_of_ble_eq_true rfl)⟩) hP hD hS hA [0, 1] [] rfl rfl rfl (by decide) (fun u_3 H locs h_4 hP hD hS => ?_)
    have hP : va_P g.1 vwCl [(oX10 x0 y0 (nI (k + 4)) z0 p0 dr pa to_ s0 im ki tr v0 rf), (aB g y0 500 (ptT tp k v1))] H := hP
    have hD : va_D A [(oX10 x0 y0 (nI (k + 4)) z0 p0 dr pa to_ s0 im ki tr v0 rf), (aB g y0 500 (ptT tp k v1))] := hD
    refine lv_aload_n hx hb dX10_feed_20 rfl (lv_at hl 0 rfl) ?_
    refine lv_iload_n hx hb dX10_feed_21 rfl (lv_at hl 2 rfl) ?_
    refine he_cv (wc := [(oX10 x0 y0 (nI (k + 4)) z0 p0 dr pa to_ s0 im ki tr v0 rf), (aB g y0 500 (ptT tp k v1))]) (wr := []) (va_runV (As := [.int v2]) (rest := []) ⟨hx, hb, hml, hown, hts⟩ (p_X10_put l g x0 y0 z0 p0 dr pa s0 im tr v0 rf (k + 4) to_ ki (ptT tp k v1) v2 (by first | assumption | decide | omega) H.size) (cwV 1 hts gX10_feed_X10_putOnTape rfl rfl rfl (by decide +kernel) ⟨Nat.le_of_ble_eq_true rfl, Nat.le_of_ble_eq_true rfl⟩) (he_preV (wc := [(oX10 x0 y0 (nI (k + 4)) z0 p0 dr pa to_ s0 im ki tr v0 rf), (aB g y0 500 (ptT tp k v1))]) hK hP hD hS hA hE [0, 1] rfl rfl 0 rfl rfl) rfl rfl hl.1 rfl (lv_room (Nat.le_of_ble_eq_true rfl)) dX10_feed_22 ⟨(Nat.le_of_ble_eq_true rfl), (Nat.le_of_ble_eq_true rfl)⟩) hP hD hS hA [0, 1] [] rfl rfl rfl (by decide) (fun u_6 H locs h_7 hP hD hS => ?_)
    have hP : va_P g.1 vwCl [(oX10 x0 y0 (nI ((k + 4) + 4)) z0 p0 dr pa to_ s0 im ki tr v0 rf), (aB g y0 500 (ptT (ptT tp k v1) (k + 4) v2))] H := hP
    have hD : va_D A [(oX10 x0 y0 (nI ((k + 4) + 4)) z0 p0 dr pa to_ s0 im ki tr v0 rf), (aB g y0 500 (ptT (ptT tp k v1) (k + 4) v2))] := hD
    refine lv_aload_n hx hb dX10_feed_25 rfl (lv_at hl 0 rfl) ?_
    refine lv_iload_n hx hb dX10_feed_26 rfl (lv_at hl 3 rfl) ?_
    refine he_cv (wc := [(oX10 x0 y0 (nI ((k + 4) + 4)) z0 p0 dr pa to_ s0 im ki tr v0 rf), (aB g y0 500 (ptT (ptT tp k v1) (k + 4) v2))]) (wr := []) (va_runV (As := [.int v3]) (rest := []) ⟨hx, hb, hml, hown, hts⟩ (p_X10_put l g x0 y0 z0 p0 dr pa s0 im tr v0 rf ((k + 4) + 4) to_ ki (ptT (ptT tp k v1) (k + 4) v2) v3 (by first | assumption | decide | omega) H.size) (cwV 1 hts gX10_feed_X10_putOnTape rfl rfl rfl (by decide +kernel) ⟨Nat.le_of_ble_eq_true rfl, Nat.le_of_ble_eq_true rfl⟩) (he_preV (wc := [(oX10 x0 y0 (nI ((k + 4) + 4)) z0 p0 dr pa to_ s0 im ki tr v0 rf), (aB g y0 500 (ptT (ptT tp k v1) (k + 4) v2))]) hK hP hD hS hA hE [0, 1] rfl rfl 0 rfl rfl) rfl rfl hl.1 rfl (lv_room (Nat.le_of_ble_eq_true rfl)) dX10_feed_27 ⟨(Nat.le_of_ble_eq_true rfl), (Nat.le_of_ble_eq_true rfl)⟩) hP hD hS hA [0, 1] [] rfl rfl rfl (by decide) (fun u_9 H locs h_10 hP hD hS => ?_)
    have hP : va_P g.1 vwCl [(oX10 x0 y0 (nI (((k + 4) + 4) + 4)) z0 p0 dr pa to_ s0 im ki tr v0 rf), (aB g y0 500 (ptT (ptT (ptT tp k v1) (k + 4) v2) ((k + 4) + 4) v3))] H := hP
    have hD : va_D A [(oX10 x0 y0 (nI (((k + 4) + 4) + 4)) z0 p0 dr pa to_ s0 im ki tr v0 rf), (aB g y0 500 (ptT (ptT (ptT tp k v1) (k + 4) v2) ((k + 4) + 4) v3))] := hD
    refine lv_aload_n hx hb dX10_feed_30 rfl (lv_at hl 0 rfl) ?_
    refine lv_iload hx hb dX10_feed_31 (lv_at hl 4 rfl) ?_
    refine he_cv (wc := [(oX10 x0 y0 (nI (((k + 4) + 4) + 4)) z0 p0 dr pa to_ s0 im ki tr v0 rf), (aB g y0 500 (ptT (ptT (ptT tp k v1) (k + 4) v2) ((k + 4) + 4) v3))]) (wr := []) (va_runV (As := [.int v4]) (rest := []) ⟨hx, hb, hml, hown, hts⟩ (p_X10_put l g x0 y0 z0 p0 dr pa s0 im tr v0 rf (((k + 4) + 4) + 4) to_ ki (ptT (ptT (ptT tp k v1) (k + 4) v2) ((k + 4) + 4) v3) v4 (by first | assumption | decide | omega) H.size) (cwV 1 hts gX10_feed_X10_putOnTape rfl rfl rfl (by decide +kernel) ⟨Nat.le_of_ble_eq_true rfl, Nat.le_of_ble_eq_true rfl⟩) (he_preV (wc := [(oX10 x0 y0 (nI (((k + 4) + 4) + 4)) z0 p0 dr pa to_ s0 im ki tr v0 rf), (aB g y0 500 (ptT (ptT (ptT tp k v1) (k + 4) v2) ((k + 4) + 4) v3))]) hK hP hD hS hA hE [0, 1] rfl rfl 0 rfl rfl) rfl rfl hl.1 rfl (lv_room (Nat.le_of_ble_eq_true rfl)) dX10_feed_33 ⟨(Nat.le_of_ble_eq_true rfl), (Nat.le_of_ble_eq_true rfl)⟩) hP hD hS hA [0, 1] [] rfl rfl rfl (by decide) (fun u_12 H locs h_13 hP hD hS => ?_)
    have hP : va_P g.1 vwCl [(oX10 x0 y0 (nI ((((k + 4) + 4) + 4) + 4)) z0 p0 dr pa to_ s0 im ki tr v0 rf), (aB g y0 500 (ptT (ptT (ptT (ptT tp k v1) (k + 4) v2) ((k + 4) + 4) v3) (((k + 4) + 4) + 4) v4))] H := hP
    have hD : va_D A [(oX10 x0 y0 (nI ((((k + 4) + 4) + 4) + 4)) z0 p0 dr pa to_ s0 im ki tr v0 rf), (aB g y0 500 (ptT (ptT (ptT (ptT tp k v1) (k + 4) v2) ((k + 4) + 4) v3) (((k + 4) + 4) + 4) v4))] := hD
    refine lv_aload_n hx hb dX10_feed_36 rfl (lv_at hl 0 rfl) ?_
    refine lv_iload hx hb dX10_feed_37 (lv_at hl 5 rfl) ?_
    refine he_cv (wc := [(oX10 x0 y0 (nI ((((k + 4) + 4) + 4) + 4)) z0 p0 dr pa to_ s0 im ki tr v0 rf), (aB g y0 500 (ptT (ptT (ptT (ptT tp k v1) (k + 4) v2) ((k + 4) + 4) v3) (((k + 4) + 4) + 4) v4))]) (wr := []) (va_runV (As := [.int v5]) (rest := []) ⟨hx, hb, hml, hown, hts⟩ (p_X10_put l g x0 y0 z0 p0 dr pa s0 im tr v0 rf ((((k + 4) + 4) + 4) + 4) to_ ki (ptT (ptT (ptT (ptT tp k v1) (k + 4) v2) ((k + 4) + 4) v3) (((k + 4) + 4) + 4) v4) v5 (by first | assumption | decide | omega) H.size) (cwV 1 hts gX10_feed_X10_putOnTape rfl rfl rfl (by decide +kernel) ⟨Nat.le_of_ble_eq_true rfl, Nat.le_of_ble_eq_true rfl⟩) (he_preV (wc := [(oX10 x0 y0 (nI ((((k + 4) + 4) + 4) + 4)) z0 p0 dr pa to_ s0 im ki tr v0 rf), (aB g y0 500 (ptT (ptT (ptT (ptT tp k v1) (k + 4) v2) ((k + 4) + 4) v3) (((k + 4) + 4) + 4) v4))]) hK hP hD hS hA hE [0, 1] rfl rfl 0 rfl rfl) rfl rfl hl.1 rfl (lv_room (Nat.le_of_ble_eq_true rfl)) dX10_feed_39 ⟨(Nat.le_of_ble_eq_true rfl), (Nat.le_of_ble_eq_true rfl)⟩) hP hD hS hA [0, 1] [] rfl rfl rfl (by decide) (fun u_15 H locs h_16 hP hD hS => ?_)
    have hP : va_P g.1 vwCl [(oX10 x0 y0 (nI (((((k + 4) + 4) + 4) + 4) + 4)) z0 p0 dr pa to_ s0 im ki tr v0 rf), (aB g y0 500 (ptT (ptT (ptT (ptT (ptT tp k v1) (k + 4) v2) ((k + 4) + 4) v3) (((k + 4) + 4) + 4) v4) ((((k + 4) + 4) + 4) + 4) v5))] H := hP
    have hD : va_D A [(oX10 x0 y0 (nI (((((k + 4) + 4) + 4) + 4) + 4)) z0 p0 dr pa to_ s0 im ki tr v0 rf), (aB g y0 500 (ptT (ptT (ptT (ptT (ptT tp k v1) (k + 4) v2) ((k + 4) + 4) v3) (((k + 4) + 4) + 4) v4) ((((k + 4) + 4) + 4) + 4) v5))] := hD
    refine lv_aload_n hx hb dX10_feed_42 rfl (lv_at hl 0 rfl) ?_
    refine va_get (v := .int (nI (((((k + 4) + 4) + 4) + 4) + 4))) (T := TX10) (N := 13) hx hb hts inX10 hown hK hP 0 rfl rfl 1 (by decide) f73 (fun _ h9 => h9) rfl dX10_feed_43 ?_
    exact he_ri hQ hx hb hr hlk hP hD hS dX10_feed_46 (Nat.le_of_ble_eq_true rfl) (Nat.le_of_ble_eq_true rfl) (()) (rfl) (rfl)
  · exact absurd ((he_cle (a := k + 20) (b := 500) rfl (by decide) (by omega) (by decide)).mpr (by omega)) c_1
set_option maxHeartbeats 4000000 in
set_option maxRecDepth 100000 in
theorem p_X10_siege (l : Launch) (g : he_G) (x0 : Nat) (y0 : Nat) (z0 : Nat) (dr : Nat) (pa : Nat) (s0 : Nat) (im : Nat) (tr : Nat) (v0 : Nat) (rf : Nat) (k : Nat) (to_ : Int32) (ki : Int32) (p0 : Nat) (p1 : Nat) (p2 : Nat) (p3 : Nat) (p4 : Nat) (w : Nat) (sd : Nat → Int32) (fn : Nat → Int32) (st : Nat → Int32) (me : Nat → Int32) (d1 : Nat) (d2 : Nat) (d3 : Nat) (d4 : Nat) (dw : Int32) (e0_ : Nat → Int32) (e1_ : Nat → Int32) (e2_ : Nat → Int32) (e3_ : Nat → Int32) (z1 : Nat) (y1 : Nat) (n1 : Int32) (at1 : Int32) (fa : Int32) (pl : Int32) (tp : Nat → Int32) (nu : Nat → Int32) (n : Nat) (a0 : Nat) (b0 : Nat) (e0 : Nat) (h0 : Nat) (q0 : Nat) (q1 : Nat) (mo : Int32) (f : Nat → Int32) (x : Int32) (y : Int32) (rl : Int64) (hd : Int64) (th : Int32) (b1 : Nat) (b2 : Nat) (e1 : Nat) (e2 : Nat) (co : Nat → Int32) (T : Nat → Nat) (hnk : n ≤ k) (hk5 : k ≤ 500) (hw6 : w ≤ 6) (hT : ∀ j, j < n → T j < 256 ∧ tp j = sbI (T j)) : he_I l yX10_siege wsX10_siege 8 185 0 0 g [.ref x0, .int (nI n)] [(oX10 x0 y0 (nI k) z0 p0 dr pa to_ s0 im ki tr v0 rf), (oX6 p0 p1 p2 p3 p4 (nI w)), (aI g p1 24 sd), (aI g p2 10 fn), (aI g p3 6 st), (aI g p4 6 me), (oX6 dr d1 d2 d3 d4 dw), (aI g d1 24 e0_), (aI g d2 10 e1_), (aI g d3 6 e2_), (aI g d4 6 e3_), (oX7 z0 y1 n1 at1 fa pl z1), (aB g y0 500 tp), (aI g z1 3 nu), (oX8 s0 h0 a0 b0 e0), (oX4 h0 q0 q1 mo), (aI g q0 24 f), (oX2 b0 b1 b2 x y rl hd th), (oX3 e0 e1 e2), (aI g e1 36 co)] (fun (r : Int32) (u : Nat × Nat × Int32 × Int32 × Nat × Int32 × Int32 × (Nat → Int32) × Nat × (Nat → Int32) × (Nat → Int32) × (Nat → Int32) × (Nat → Int32) × Int32 × (Nat → Int32) × Int64 × Int64 × Int32 × (Nat → Int32)) => u.2.2.2.2.2.2.2.2.1 ≤ 6 ∧ ((u.1 = p0 ∧ u.2.1 = dr ∧ u.2.2.1 = to_ ∧ u.2.2.2.1 = ki ∧ u.2.2.2.2.2.2.2.2.2.2.2.2.2.1 = mo ∧ u.2.2.2.2.2.2.2.2.2.2.2.2.2.2.1 = f ∧ u.2.2.2.2.2.2.2.2.2.2.2.2.2.2.2.1 = rl ∧ u.2.2.2.2.2.2.2.2.2.2.2.2.2.2.2.2.1 = hd ∧ u.2.2.2.2.2.2.2.2.2.2.2.2.2.2.2.2.2.1 = th ∧ u.2.2.2.2.2.2.2.2.2.2.2.2.2.2.2.2.2.2 = co ∧ ¬ u.2.2.2.2.2.1 = 0 ∧ r = u.2.2.2.2.2.1 - 10) ∨ (u.1 = dr ∧ u.2.1 = p0 ∧ u.2.2.1 = 0 ∧ u.2.2.2.1 = 0 ∧ u.2.2.2.2.2.2.2.2.2.2.2.2.2.1 = 0 ∧ u.2.2.2.2.2.2.2.2.2.2.2.2.2.2.2.2.2.1 = 0 ∧ u.2.2.2.2.2.2.2.2.2.2.2.2.2.2.2.2.2.2 = flF (fun _ => 0) co 36 ∧ u.2.2.2.2.2.2.2.2.2.2.2.2.2.2.1 = beginF u.2.2.2.2.2.2.2.2.2.1 u.2.2.2.2.2.2.2.2.2.2.2.1 u.2.2.2.2.2.2.2.2.1 f ∧ u.2.2.2.2.2.1 = 0 ∧ r = nI u.2.2.2.2.2.2.2.2.1)) ∧ u.2.2.2.2.2.1 = faC (txP T n wl6 bd6 fl6 61 0 0 0).1 ∧ u.2.2.2.2.2.2.1 = faP (txP T n wl6 bd6 fl6 61 0 0 0).1 ∧ u.2.2.2.2.2.2.2.2.1 = fdW (txP T n wl6 bd6 fl6 61 0 0 0).2 0 ∧ u.2.2.2.2.2.2.2.2.2.1 = fdD (txP T n wl6 bd6 fl6 61 0 0 0).2 (flF unF e0_ 24) ∧ u.2.2.2.2.2.2.2.2.2.2.1 = fdN (txP T n wl6 bd6 fl6 61 0 0 0).2 (flF nrF e1_ 10) ∧ u.2.2.2.2.2.2.2.2.2.2.2.1 = fdT (txP T n wl6 bd6 fl6 61 0 0 0).2 0 e2_ ∧ u.2.2.2.2.2.2.2.2.2.2.2.2.1 = fdM (txP T n wl6 bd6 fl6 61 0 0 0).2 0 e3_) (fun (u : Nat × Nat × Int32 × Int32 × Nat × Int32 × Int32 × (Nat → Int32) × Nat × (Nat → Int32) × (Nat → Int32) × (Nat → Int32) × (Nat → Int32) × Int32 × (Nat → Int32) × Int64 × Int64 × Int32 × (Nat → Int32)) => [(oX10 x0 y0 0 z0 u.1 u.2.1 pa u.2.2.1 s0 im u.2.2.2.1 tr v0 rf), (oX6 p0 p1 p2 p3 p4 (nI w)), (aI g p1 24 sd), (aI g p2 10 fn), (aI g p3 6 st), (aI g p4 6 me), (oX6 dr d1 d2 d3 d4 (nI u.2.2.2.2.2.2.2.2.1)), (aI g d1 24 u.2.2.2.2.2.2.2.2.2.1), (aI g d2 10 u.2.2.2.2.2.2.2.2.2.2.1), (aI g d3 6 u.2.2.2.2.2.2.2.2.2.2.2.1), (aI g d4 6 u.2.2.2.2.2.2.2.2.2.2.2.2.1), (oX7 z0 y0 (nI n) (nI u.2.2.2.2.1) u.2.2.2.2.2.1 u.2.2.2.2.2.2.1 z1), (aB g y0 500 tp), (aI g z1 3 u.2.2.2.2.2.2.2.1), (oX8 s0 h0 a0 b0 e0), (oX4 h0 q0 q1 u.2.2.2.2.2.2.2.2.2.2.2.2.2.1), (aI g q0 24 u.2.2.2.2.2.2.2.2.2.2.2.2.2.2.1), (oX2 b0 b1 b2 x y u.2.2.2.2.2.2.2.2.2.2.2.2.2.2.2.1 u.2.2.2.2.2.2.2.2.2.2.2.2.2.2.2.2.1 u.2.2.2.2.2.2.2.2.2.2.2.2.2.2.2.2.2.1), (oX3 e0 e1 e2), (aI g e1 36 u.2.2.2.2.2.2.2.2.2.2.2.2.2.2.2.2.2.2)]) := by
  refine he_begin (l := l) (g := g) (y := yX10_siege) (wl := wsX10_siege) (fr := 8) (lo := 185) (mc := 0) (ms := 0) (av := [.ref x0, .int (nI n)]) (ws := [(oX10 x0 y0 (nI k) z0 p0 dr pa to_ s0 im ki tr v0 rf), (oX6 p0 p1 p2 p3 p4 (nI w)), (aI g p1 24 sd), (aI g p2 10 fn), (aI g p3 6 st), (aI g p4 6 me), (oX6 dr d1 d2 d3 d4 dw), (aI g d1 24 e0_), (aI g d2 10 e1_), (aI g d3 6 e2_), (aI g d4 6 e3_), (oX7 z0 y1 n1 at1 fa pl z1), (aB g y0 500 tp), (aI g z1 3 nu), (oX8 s0 h0 a0 b0 e0), (oX4 h0 q0 q1 mo), (aI g q0 24 f), (oX2 b0 b1 b2 x y rl hd th), (oX3 e0 e1 e2), (aI g e1 36 co)]) (cc := cX10_siege) (maxL := 4) (ret := (some .int)) (fun A => va_Qi (fun (r : Int32) (u : Nat × Nat × Int32 × Int32 × Nat × Int32 × Int32 × (Nat → Int32) × Nat × (Nat → Int32) × (Nat → Int32) × (Nat → Int32) × (Nat → Int32) × Int32 × (Nat → Int32) × Int64 × Int64 × Int32 × (Nat → Int32)) => u.2.2.2.2.2.2.2.2.1 ≤ 6 ∧ ((u.1 = p0 ∧ u.2.1 = dr ∧ u.2.2.1 = to_ ∧ u.2.2.2.1 = ki ∧ u.2.2.2.2.2.2.2.2.2.2.2.2.2.1 = mo ∧ u.2.2.2.2.2.2.2.2.2.2.2.2.2.2.1 = f ∧ u.2.2.2.2.2.2.2.2.2.2.2.2.2.2.2.1 = rl ∧ u.2.2.2.2.2.2.2.2.2.2.2.2.2.2.2.2.1 = hd ∧ u.2.2.2.2.2.2.2.2.2.2.2.2.2.2.2.2.2.1 = th ∧ u.2.2.2.2.2.2.2.2.2.2.2.2.2.2.2.2.2.2 = co ∧ ¬ u.2.2.2.2.2.1 = 0 ∧ r = u.2.2.2.2.2.1 - 10) ∨ (u.1 = dr ∧ u.2.1 = p0 ∧ u.2.2.1 = 0 ∧ u.2.2.2.1 = 0 ∧ u.2.2.2.2.2.2.2.2.2.2.2.2.2.1 = 0 ∧ u.2.2.2.2.2.2.2.2.2.2.2.2.2.2.2.2.2.1 = 0 ∧ u.2.2.2.2.2.2.2.2.2.2.2.2.2.2.2.2.2.2 = flF (fun _ => 0) co 36 ∧ u.2.2.2.2.2.2.2.2.2.2.2.2.2.2.1 = beginF u.2.2.2.2.2.2.2.2.2.1 u.2.2.2.2.2.2.2.2.2.2.2.1 u.2.2.2.2.2.2.2.2.1 f ∧ u.2.2.2.2.2.1 = 0 ∧ r = nI u.2.2.2.2.2.2.2.2.1)) ∧ u.2.2.2.2.2.1 = faC (txP T n wl6 bd6 fl6 61 0 0 0).1 ∧ u.2.2.2.2.2.2.1 = faP (txP T n wl6 bd6 fl6 61 0 0 0).1 ∧ u.2.2.2.2.2.2.2.2.1 = fdW (txP T n wl6 bd6 fl6 61 0 0 0).2 0 ∧ u.2.2.2.2.2.2.2.2.2.1 = fdD (txP T n wl6 bd6 fl6 61 0 0 0).2 (flF unF e0_ 24) ∧ u.2.2.2.2.2.2.2.2.2.2.1 = fdN (txP T n wl6 bd6 fl6 61 0 0 0).2 (flF nrF e1_ 10) ∧ u.2.2.2.2.2.2.2.2.2.2.2.1 = fdT (txP T n wl6 bd6 fl6 61 0 0 0).2 0 e2_ ∧ u.2.2.2.2.2.2.2.2.2.2.2.2.1 = fdM (txP T n wl6 bd6 fl6 61 0 0 0).2 0 e3_) (fun u t => he_post g A ((fun (u : Nat × Nat × Int32 × Int32 × Nat × Int32 × Int32 × (Nat → Int32) × Nat × (Nat → Int32) × (Nat → Int32) × (Nat → Int32) × (Nat → Int32) × Int32 × (Nat → Int32) × Int64 × Int64 × Int32 × (Nat → Int32)) => [(oX10 x0 y0 0 z0 u.1 u.2.1 pa u.2.2.1 s0 im u.2.2.2.1 tr v0 rf), (oX6 p0 p1 p2 p3 p4 (nI w)), (aI g p1 24 sd), (aI g p2 10 fn), (aI g p3 6 st), (aI g p4 6 me), (oX6 dr d1 d2 d3 d4 (nI u.2.2.2.2.2.2.2.2.1)), (aI g d1 24 u.2.2.2.2.2.2.2.2.2.1), (aI g d2 10 u.2.2.2.2.2.2.2.2.2.2.1), (aI g d3 6 u.2.2.2.2.2.2.2.2.2.2.2.1), (aI g d4 6 u.2.2.2.2.2.2.2.2.2.2.2.2.1), (oX7 z0 y0 (nI n) (nI u.2.2.2.2.1) u.2.2.2.2.2.1 u.2.2.2.2.2.2.1 z1), (aB g y0 500 tp), (aI g z1 3 u.2.2.2.2.2.2.2.1), (oX8 s0 h0 a0 b0 e0), (oX4 h0 q0 q1 u.2.2.2.2.2.2.2.2.2.2.2.2.2.1), (aI g q0 24 u.2.2.2.2.2.2.2.2.2.2.2.2.2.2.1), (oX2 b0 b1 b2 x y u.2.2.2.2.2.2.2.2.2.2.2.2.2.2.2.1 u.2.2.2.2.2.2.2.2.2.2.2.2.2.2.2.2.1 u.2.2.2.2.2.2.2.2.2.2.2.2.2.2.2.2.2.1), (oX3 e0 e1 e2), (aI g e1 36 u.2.2.2.2.2.2.2.2.2.2.2.2.2.2.2.2.2.2)]) u) t) A) (by decide) rfl (Nat.le_of_ble_eq_true rfl) ?_
  intro p e s m args below meth c A ls H locs Q hQ hB
  obtain ⟨hx, hb, hr, hml, hown, hts, hlk, hin, hP, hK, hD, hS, hA, hE, hl⟩ := hB
  have hl : lv_has ls 4 [(0, .ref x0), (1, .int (nI n))] := hl
  have f73 := hts (.fieldLink RX10 73 "HiredEnemy" "taped" "I") (iwoX10_siege (k := 0) rfl)
  have inX10 : ∀ w ∈ wsX100, w ∈ wsX10_siege := innX10_siege_X10
  have f27 := hts (.fieldLink RX10 27 "HiredEnemy" "draft" "LHiredEnemy$Plan;") (iwoX10_siege (k := 1) rfl)
  have f16 := hts (.fieldLink RX10 16 "HiredEnemy" "reader" "LHiredEnemy$Reader;") (iwoX10_siege (k := 2) rfl)
  have f9 := hts (.fieldLink RX10 9 "HiredEnemy" "tape" "[B") (iwoX10_siege (k := 3) rfl)
  have f23 := hts (.fieldLink RX10 23 "HiredEnemy" "plan" "LHiredEnemy$Plan;") (iwoX10_siege (k := 4) rfl)
  have f92 := hts (.fieldLink RX10 92 "HiredEnemy" "pactsTold" "I") (iwoX10_siege (k := 5) rfl)
  have f95 := hts (.fieldLink RX10 95 "HiredEnemy" "imagesKept" "I") (iwoX10_siege (k := 6) rfl)
  have f39 := hts (.fieldLink RX10 39 "HiredEnemy" "scene" "LHiredEnemy$Scene;") (iwoX10_siege (k := 7) rfl)
  have f99 := hts (.fieldLink RX10 99 "HiredEnemy$Plan" "walls" "I") (iwoX10_siege (k := 8) rfl)
  have inX6 : ∀ w ∈ wsX60, w ∈ wsX10_siege := innX10_siege_X6
  refine lv_aload_n hx hb dX10_siege_0 rfl (lv_at hl 0 rfl) ?_
  refine lv_iload_n hx hb dX10_siege_1 rfl (lv_at hl 1 rfl) ?_
  refine lv_if_lt (tgt := 17) hx hb dX10_siege_2 (by decide) (fun c_1 => ?_) (fun c_1 => ?_)
  · exact absurd c_1 (nI_pos (by omega))
  · refine lv_iload_n hx hb dX10_siege_5 rfl (lv_at hl 1 rfl) ?_
    refine lv_aload_n hx hb dX10_siege_6 rfl (lv_at hl 0 rfl) ?_
    refine va_get (v := .int (nI k)) (T := TX10) (N := 13) hx hb hts inX10 hown hK hP 0 rfl rfl 1 (by decide) f73 (fun _ h9 => h9) rfl dX10_siege_7 ?_
    refine lv_icmp_gt (tgt := 17) hx hb dX10_siege_10 (by decide) (fun c_2 => ?_) (fun c_2 => ?_)
    · exact absurd c_2 (fun h9 => absurd ((nI_ltI (by omega) (by omega)).mp h9) (by omega))
    · refine lv_iconst (v := 1) hx hb dX10_siege_13 (by decide) ?_
      refine lv_goto (tgt := 18) hx hb dX10_siege_14 (by decide) ?_
      refine he_cv (wc := []) (wr := [(oX10 x0 y0 (nI k) z0 p0 dr pa to_ s0 im ki tr v0 rf), (oX6 p0 p1 p2 p3 p4 (nI w)), (aI g p1 24 sd), (aI g p2 10 fn), (aI g p3 6 st), (aI g p4 6 me), (oX6 dr d1 d2 d3 d4 dw), (aI g d1 24 e0_), (aI g d2 10 e1_), (aI g d3 6 e2_), (aI g d4 6 e3_), (oX7 z0 y1 n1 at1 fa pl z1), (aB g y0 500 tp), (aI g z1 3 nu), (oX8 s0 h0 a0 b0 e0), (oX4 h0 q0 q1 mo), (aI g q0 24 f), (oX2 b0 b1 b2 x y rl hd th), (oX3 e0 e1 e2), (aI g e1 36 co)]) (va_runV (As := [.int 1]) (rest := []) ⟨hx, hb, hml, hown, hts⟩ (c_X10_demand1 l g x0 H.size) (cwV 1 hts gX10_siege_X10_demand rfl rfl rfl (by decide +kernel) ⟨Nat.le_of_ble_eq_true rfl, Nat.le_of_ble_eq_true rfl⟩) (he_preV (wc := []) hK hP hD hS hA hE [] rfl rfl 0 rfl rfl) rfl rfl hl.1 rfl (lv_room (Nat.le_of_ble_eq_true rfl)) dX10_siege_18 ⟨(Nat.le_of_ble_eq_true rfl), (Nat.le_of_ble_eq_true rfl)⟩) hP hD hS hA [] [0, 1, 2, 3, 4, 5, 6, 7, 8, 9, 10, 11, 12, 13, 14, 15, 16, 17, 18, 19] rfl rfl rfl (by decide) (fun u_4 H locs h_5 hP hD hS => ?_)
      have hP : va_P g.1 vwCl [(oX10 x0 y0 (nI k) z0 p0 dr pa to_ s0 im ki tr v0 rf), (oX6 p0 p1 p2 p3 p4 (nI w)), (aI g p1 24 sd), (aI g p2 10 fn), (aI g p3 6 st), (aI g p4 6 me), (oX6 dr d1 d2 d3 d4 dw), (aI g d1 24 e0_), (aI g d2 10 e1_), (aI g d3 6 e2_), (aI g d4 6 e3_), (oX7 z0 y1 n1 at1 fa pl z1), (aB g y0 500 tp), (aI g z1 3 nu), (oX8 s0 h0 a0 b0 e0), (oX4 h0 q0 q1 mo), (aI g q0 24 f), (oX2 b0 b1 b2 x y rl hd th), (oX3 e0 e1 e2), (aI g e1 36 co)] H := hP
      have hD : va_D A [(oX10 x0 y0 (nI k) z0 p0 dr pa to_ s0 im ki tr v0 rf), (oX6 p0 p1 p2 p3 p4 (nI w)), (aI g p1 24 sd), (aI g p2 10 fn), (aI g p3 6 st), (aI g p4 6 me), (oX6 dr d1 d2 d3 d4 dw), (aI g d1 24 e0_), (aI g d2 10 e1_), (aI g d3 6 e2_), (aI g d4 6 e3_), (oX7 z0 y1 n1 at1 fa pl z1), (aB g y0 500 tp), (aI g z1 3 nu), (oX8 s0 h0 a0 b0 e0), (oX4 h0 q0 q1 mo), (aI g q0 24 f), (oX2 b0 b1 b2 x y rl hd th), (oX3 e0 e1 e2), (aI g e1 36 co)] := hD
      refine lv_aload_n hx hb dX10_siege_21 rfl (lv_at hl 0 rfl) ?_
      refine lv_iconst (v := 0) hx hb dX10_siege_22 (by decide) ?_
      refine va_put (v := .int 0) (ty := .int) (T := TX10) (N := 13) hx hb hts inX10 tyX10 tyX10_ok nmX10 hown hK hP hD hS 0 rfl rfl 1 (by decide) f73 (fun _ h9 => h9) rfl (by decide +kernel) rfl rfl (Nat.le_of_ble_eq_true rfl) dX10_siege_23 (fun H locs hP hD hS => ?_)
      have hP : va_P g.1 vwCl [(oX10 x0 y0 0 z0 p0 dr pa to_ s0 im ki tr v0 rf), (oX6 p0 p1 p2 p3 p4 (nI w)), (aI g p1 24 sd), (aI g p2 10 fn), (aI g p3 6 st), (aI g p4 6 me), (oX6 dr d1 d2 d3 d4 dw), (aI g d1 24 e0_), (aI g d2 10 e1_), (aI g d3 6 e2_), (aI g d4 6 e3_), (oX7 z0 y1 n1 at1 fa pl z1), (aB g y0 500 tp), (aI g z1 3 nu), (oX8 s0 h0 a0 b0 e0), (oX4 h0 q0 q1 mo), (aI g q0 24 f), (oX2 b0 b1 b2 x y rl hd th), (oX3 e0 e1 e2), (aI g e1 36 co)] H := hP
      have hD : va_D A [(oX10 x0 y0 0 z0 p0 dr pa to_ s0 im ki tr v0 rf), (oX6 p0 p1 p2 p3 p4 (nI w)), (aI g p1 24 sd), (aI g p2 10 fn), (aI g p3 6 st), (aI g p4 6 me), (oX6 dr d1 d2 d3 d4 dw), (aI g d1 24 e0_), (aI g d2 10 e1_), (aI g d3 6 e2_), (aI g d4 6 e3_), (oX7 z0 y1 n1 at1 fa pl z1), (aB g y0 500 tp), (aI g z1 3 nu), (oX8 s0 h0 a0 b0 e0), (oX4 h0 q0 q1 mo), (aI g q0 24 f), (oX2 b0 b1 b2 x y rl hd th), (oX3 e0 e1 e2), (aI g e1 36 co)] := hD
      refine lv_aload_n hx hb dX10_siege_26 rfl (lv_at hl 0 rfl) ?_
      refine va_get (v := .ref dr) (T := TX10) (N := 13) hx hb hts inX10 hown hK hP 0 rfl rfl 4 (by decide) f27 (fun _ h9 => h9) rfl dX10_siege_27 ?_
      refine he_cv (wc := [(oX6 dr d1 d2 d3 d4 dw), (aI g d1 24 e0_), (aI g d2 10 e1_)]) (wr := [(oX10 x0 y0 0 z0 p0 dr pa to_ s0 im ki tr v0 rf), (oX6 p0 p1 p2 p3 p4 (nI w)), (aI g p1 24 sd), (aI g p2 10 fn), (aI g p3 6 st), (aI g p4 6 me), (aI g d3 6 e2_), (aI g d4 6 e3_), (oX7 z0 y1 n1 at1 fa pl z1), (aB g y0 500 tp), (aI g z1 3 nu), (oX8 s0 h0 a0 b0 e0), (oX4 h0 q0 q1 mo), (aI g q0 24 f), (oX2 b0 b1 b2 x y rl hd th), (oX3 e0 e1 e2), (aI g e1 36 co)]) (va_runV (As := []) (rest := []) ⟨hx, hb, hml, hown, hts⟩ (c_X6_clear l g dr d1 d2 d3 d4 dw e0_ e1_ H.size) (cwV 0 hts gX10_siege_X6_clear rfl rfl rfl (by decide +kernel) ⟨Nat.le_of_ble_eq_true rfl, Nat.le_of_ble_eq_true rfl⟩) (he_preV (wc := [(oX6 dr d1 d2 d3 d4 dw), (aI g d1 24 e0_), (aI g d2 10 e1_)]) hK hP hD hS hA hE [6, 7, 8] rfl rfl 6 rfl rfl) rfl rfl hl.1 rfl (lv_room (Nat.le_of_ble_eq_true rfl)) dX10_siege_30 ⟨(Nat.le_of_ble_eq_true rfl), (Nat.le_of_ble_eq_true rfl)⟩) hP hD hS hA [6, 7, 8] [0, 1, 2, 3, 4, 5, 9, 10, 11, 12, 13, 14, 15, 16, 17, 18, 19] rfl rfl rfl (by decide) (fun u_7 H locs h_8 hP hD hS => ?_)
      have hP : va_P g.1 vwCl [(oX10 x0 y0 0 z0 p0 dr pa to_ s0 im ki tr v0 rf), (oX6 p0 p1 p2 p3 p4 (nI w)), (aI g p1 24 sd), (aI g p2 10 fn), (aI g p3 6 st), (aI g p4 6 me), (aI g d3 6 e2_), (aI g d4 6 e3_), (oX7 z0 y1 n1 at1 fa pl z1), (aB g y0 500 tp), (aI g z1 3 nu), (oX8 s0 h0 a0 b0 e0), (oX4 h0 q0 q1 mo), (aI g q0 24 f), (oX2 b0 b1 b2 x y rl hd th), (oX3 e0 e1 e2), (aI g e1 36 co), (oX6 dr d1 d2 d3 d4 0), (aI g d1 24 (flF unF e0_ 24)), (aI g d2 10 (flF nrF e1_ 10))] H := hP
      have hD : va_D A [(oX10 x0 y0 0 z0 p0 dr pa to_ s0 im ki tr v0 rf), (oX6 p0 p1 p2 p3 p4 (nI w)), (aI g p1 24 sd), (aI g p2 10 fn), (aI g p3 6 st), (aI g p4 6 me), (aI g d3 6 e2_), (aI g d4 6 e3_), (oX7 z0 y1 n1 at1 fa pl z1), (aB g y0 500 tp), (aI g z1 3 nu), (oX8 s0 h0 a0 b0 e0), (oX4 h0 q0 q1 mo), (aI g q0 24 f), (oX2 b0 b1 b2 x y rl hd th), (oX3 e0 e1 e2), (aI g e1 36 co), (oX6 dr d1 d2 d3 d4 0), (aI g d1 24 (flF unF e0_ 24)), (aI g d2 10 (flF nrF e1_ 10))] := hD
      refine lv_aload_n hx hb dX10_siege_33 rfl (lv_at hl 0 rfl) ?_
      refine va_get (v := .ref z0) (T := TX10) (N := 13) hx hb hts inX10 hown hK hP 0 rfl rfl 2 (by decide) f16 (fun _ h9 => h9) rfl dX10_siege_34 ?_
      refine lv_aload_n hx hb dX10_siege_37 rfl (lv_at hl 0 rfl) ?_
      refine va_get (v := .ref y0) (T := TX10) (N := 13) hx hb hts inX10 hown hK hP 0 rfl rfl 0 (by decide) f9 (fun _ h9 => h9) rfl dX10_siege_38 ?_
      refine lv_iload_n hx hb dX10_siege_41 rfl (lv_at hl 1 rfl) ?_
      refine lv_aload_n hx hb dX10_siege_42 rfl (lv_at hl 0 rfl) ?_
      refine va_get (v := .ref dr) (T := TX10) (N := 13) hx hb hts inX10 hown hK hP 0 rfl rfl 4 (by decide) f27 (fun _ h9 => h9) rfl dX10_siege_43 ?_
      refine he_ci (wc := [(oX7 z0 y1 n1 at1 fa pl z1), (aB g y0 500 tp), (aI g z1 3 nu), (oX6 dr d1 d2 d3 d4 0), (aI g d1 24 (flF unF e0_ 24)), (aI g d2 10 (flF nrF e1_ 10)), (aI g d3 6 e2_), (aI g d4 6 e3_)]) (wr := [(oX10 x0 y0 0 z0 p0 dr pa to_ s0 im ki tr v0 rf), (oX6 p0 p1 p2 p3 p4 (nI w)), (aI g p1 24 sd), (aI g p2 10 fn), (aI g p3 6 st), (aI g p4 6 me), (oX8 s0 h0 a0 b0 e0), (oX4 h0 q0 q1 mo), (aI g q0 24 f), (oX2 b0 b1 b2 x y rl hd th), (oX3 e0 e1 e2), (aI g e1 36 co)]) (va_runV (As := [.ref y0, .int (nI n), .ref dr]) (rest := []) ⟨hx, hb, hml, hown, hts⟩ (p_X7_read6 l g z0 z1 y0 n y1 n1 at1 fa pl tp T nu dr d1 d2 d3 d4 0 (flF unF e0_ 24) (flF nrF e1_ 10) e2_ e3_ (by omega) (by decide) (by first | assumption | decide | omega) H.size) (cwV 3 hts gX10_siege_X7_read rfl rfl rfl (by decide +kernel) ⟨Nat.le_of_ble_eq_true rfl, Nat.le_of_ble_eq_true rfl⟩) (he_preV (wc := [(oX7 z0 y1 n1 at1 fa pl z1), (aB g y0 500 tp), (aI g z1 3 nu), (oX6 dr d1 d2 d3 d4 0), (aI g d1 24 (flF unF e0_ 24)), (aI g d2 10 (flF nrF e1_ 10)), (aI g d3 6 e2_), (aI g d4 6 e3_)]) hK hP hD hS hA hE [8, 9, 10, 17, 18, 19, 6, 7] rfl rfl 8 rfl rfl) rfl rfl hl.1 rfl (lv_room (Nat.le_of_ble_eq_true rfl)) dX10_siege_46 ⟨(Nat.le_of_ble_eq_true rfl), (Nat.le_of_ble_eq_true rfl)⟩) hP hD hS hA [8, 9, 10, 17, 18, 19, 6, 7] [0, 1, 2, 3, 4, 5, 11, 12, 13, 14, 15, 16] rfl rfl rfl (by decide) (fun r_9 u_10 H locs h_11 hP hD hS => ?_)
      obtain ⟨k2_12, fb_13, pb_14, nv_15, uw_16, ud_17, un_18, ut_19, um_20⟩ := u_10
      try dsimp only at h_11
      obtain ⟨hf_21, hf_22, hf_23, hf_24, hf_25, hf_26, hf_27, hf_28, hf_29⟩ := h_11
      have hP : va_P g.1 vwCl [(oX10 x0 y0 0 z0 p0 dr pa to_ s0 im ki tr v0 rf), (oX6 p0 p1 p2 p3 p4 (nI w)), (aI g p1 24 sd), (aI g p2 10 fn), (aI g p3 6 st), (aI g p4 6 me), (oX8 s0 h0 a0 b0 e0), (oX4 h0 q0 q1 mo), (aI g q0 24 f), (oX2 b0 b1 b2 x y rl hd th), (oX3 e0 e1 e2), (aI g e1 36 co), (oX7 z0 y0 (nI n) (nI k2_12) fb_13 pb_14 z1), (aB g y0 500 tp), (aI g z1 3 nv_15), (oX6 dr d1 d2 d3 d4 (nI uw_16)), (aI g d1 24 ud_17), (aI g d2 10 un_18), (aI g d3 6 ut_19), (aI g d4 6 um_20)] H := hP
      have hD : va_D A [(oX10 x0 y0 0 z0 p0 dr pa to_ s0 im ki tr v0 rf), (oX6 p0 p1 p2 p3 p4 (nI w)), (aI g p1 24 sd), (aI g p2 10 fn), (aI g p3 6 st), (aI g p4 6 me), (oX8 s0 h0 a0 b0 e0), (oX4 h0 q0 q1 mo), (aI g q0 24 f), (oX2 b0 b1 b2 x y rl hd th), (oX3 e0 e1 e2), (aI g e1 36 co), (oX7 z0 y0 (nI n) (nI k2_12) fb_13 pb_14 z1), (aB g y0 500 tp), (aI g z1 3 nv_15), (oX6 dr d1 d2 d3 d4 (nI uw_16)), (aI g d1 24 ud_17), (aI g d2 10 un_18), (aI g d3 6 ut_19), (aI g d4 6 um_20)] := hD
      refine lv_istore_n (lv' := [(2, .int r_9), (0, .ref x0), (1, .int (nI n))]) hx hb dX10_siege_49 rfl hl (by decide) rfl (fun ls hl => ?_)
      refine lv_iload_n hx hb dX10_siege_50 rfl (lv_at hl 0 rfl) ?_
      refine lv_if_eq (tgt := 59) hx hb dX10_siege_51 (by decide) (fun c_30 => ?_) (fun c_30 => ?_)
      · refine lv_aload_n hx hb dX10_siege_59 rfl (lv_at hl 1 rfl) ?_
        refine va_get (v := .ref p0) (T := TX10) (N := 13) hx hb hts inX10 hown hK hP 0 rfl rfl 3 (by decide) f23 (fun _ h9 => h9) rfl dX10_siege_60 ?_
        refine lv_astore_n (lv' := [(3, .ref p0), (2, .int r_9), (0, .ref x0), (1, .int (nI n))]) hx hb dX10_siege_63 rfl hl (by decide) rfl (fun ls hl => ?_)
        refine lv_aload_n hx hb dX10_siege_64 rfl (lv_at hl 2 rfl) ?_
        refine lv_aload_n hx hb dX10_siege_65 rfl (lv_at hl 2 rfl) ?_
        refine va_get (v := .ref dr) (T := TX10) (N := 13) hx hb hts inX10 hown hK hP 0 rfl rfl 4 (by decide) f27 (fun _ h9 => h9) rfl dX10_siege_66 ?_
        refine va_put (v := .ref dr) (ty := tyX10 3) (T := TX10) (N := 13) hx hb hts inX10 tyX10 tyX10_ok nmX10 hown hK hP hD hS 0 rfl rfl 3 (by decide) f23 (fun _ h9 => h9) rfl (by decide +kernel) rfl rfl (Nat.le_of_ble_eq_true rfl) dX10_siege_69 (fun H locs hP hD hS => ?_)
        have hP : va_P g.1 vwCl [(oX10 x0 y0 0 z0 dr dr pa to_ s0 im ki tr v0 rf), (oX6 p0 p1 p2 p3 p4 (nI w)), (aI g p1 24 sd), (aI g p2 10 fn), (aI g p3 6 st), (aI g p4 6 me), (oX8 s0 h0 a0 b0 e0), (oX4 h0 q0 q1 mo), (aI g q0 24 f), (oX2 b0 b1 b2 x y rl hd th), (oX3 e0 e1 e2), (aI g e1 36 co), (oX7 z0 y0 (nI n) (nI k2_12) fb_13 pb_14 z1), (aB g y0 500 tp), (aI g z1 3 nv_15), (oX6 dr d1 d2 d3 d4 (nI uw_16)), (aI g d1 24 ud_17), (aI g d2 10 un_18), (aI g d3 6 ut_19), (aI g d4 6 um_20)] H := hP
        have hD : va_D A [(oX10 x0 y0 0 z0 dr dr pa to_ s0 im ki tr v0 rf), (oX6 p0 p1 p2 p3 p4 (nI w)), (aI g p1 24 sd), (aI g p2 10 fn), (aI g p3 6 st), (aI g p4 6 me), (oX8 s0 h0 a0 b0 e0), (oX4 h0 q0 q1 mo), (aI g q0 24 f), (oX2 b0 b1 b2 x y rl hd th), (oX3 e0 e1 e2), (aI g e1 36 co), (oX7 z0 y0 (nI n) (nI k2_12) fb_13 pb_14 z1), (aB g y0 500 tp), (aI g z1 3 nv_15), (oX6 dr d1 d2 d3 d4 (nI uw_16)), (aI g d1 24 ud_17), (aI g d2 10 un_18), (aI g d3 6 ut_19), (aI g d4 6 um_20)] := hD
        refine lv_aload_n hx hb dX10_siege_72 rfl (lv_at hl 2 rfl) ?_
        refine lv_aload_n hx hb dX10_siege_73 rfl (lv_at hl 0 rfl) ?_
        refine va_put (v := .ref p0) (ty := tyX10 4) (T := TX10) (N := 13) hx hb hts inX10 tyX10 tyX10_ok nmX10 hown hK hP hD hS 0 rfl rfl 4 (by decide) f27 (fun _ h9 => h9) rfl (by decide +kernel) rfl rfl (Nat.le_of_ble_eq_true rfl) dX10_siege_74 (fun H locs hP hD hS => ?_)
        have hP : va_P g.1 vwCl [(oX10 x0 y0 0 z0 dr p0 pa to_ s0 im ki tr v0 rf), (oX6 p0 p1 p2 p3 p4 (nI w)), (aI g p1 24 sd), (aI g p2 10 fn), (aI g p3 6 st), (aI g p4 6 me), (oX8 s0 h0 a0 b0 e0), (oX4 h0 q0 q1 mo), (aI g q0 24 f), (oX2 b0 b1 b2 x y rl hd th), (oX3 e0 e1 e2), (aI g e1 36 co), (oX7 z0 y0 (nI n) (nI k2_12) fb_13 pb_14 z1), (aB g y0 500 tp), (aI g z1 3 nv_15), (oX6 dr d1 d2 d3 d4 (nI uw_16)), (aI g d1 24 ud_17), (aI g d2 10 un_18), (aI g d3 6 ut_19), (aI g d4 6 um_20)] H := hP
        have hD : va_D A [(oX10 x0 y0 0 z0 dr p0 pa to_ s0 im ki tr v0 rf), (oX6 p0 p1 p2 p3 p4 (nI w)), (aI g p1 24 sd), (aI g p2 10 fn), (aI g p3 6 st), (aI g p4 6 me), (oX8 s0 h0 a0 b0 e0), (oX4 h0 q0 q1 mo), (aI g q0 24 f), (oX2 b0 b1 b2 x y rl hd th), (oX3 e0 e1 e2), (aI g e1 36 co), (oX7 z0 y0 (nI n) (nI k2_12) fb_13 pb_14 z1), (aB g y0 500 tp), (aI g z1 3 nv_15), (oX6 dr d1 d2 d3 d4 (nI uw_16)), (aI g d1 24 ud_17), (aI g d2 10 un_18), (aI g d3 6 ut_19), (aI g d4 6 um_20)] := hD
        refine lv_aload_n hx hb dX10_siege_77 rfl (lv_at hl 2 rfl) ?_
        refine lv_iconst (v := 0) hx hb dX10_siege_78 (by decide) ?_
        refine va_put (v := .int 0) (ty := .int) (T := TX10) (N := 13) hx hb hts inX10 tyX10 tyX10_ok nmX10 hown hK hP hD hS 0 rfl rfl 6 (by decide) f92 (fun _ h9 => h9) rfl (by decide +kernel) rfl rfl (Nat.le_of_ble_eq_true rfl) dX10_siege_79 (fun H locs hP hD hS => ?_)
        have hP : va_P g.1 vwCl [(oX10 x0 y0 0 z0 dr p0 pa 0 s0 im ki tr v0 rf), (oX6 p0 p1 p2 p3 p4 (nI w)), (aI g p1 24 sd), (aI g p2 10 fn), (aI g p3 6 st), (aI g p4 6 me), (oX8 s0 h0 a0 b0 e0), (oX4 h0 q0 q1 mo), (aI g q0 24 f), (oX2 b0 b1 b2 x y rl hd th), (oX3 e0 e1 e2), (aI g e1 36 co), (oX7 z0 y0 (nI n) (nI k2_12) fb_13 pb_14 z1), (aB g y0 500 tp), (aI g z1 3 nv_15), (oX6 dr d1 d2 d3 d4 (nI uw_16)), (aI g d1 24 ud_17), (aI g d2 10 un_18), (aI g d3 6 ut_19), (aI g d4 6 um_20)] H := hP
        have hD : va_D A [(oX10 x0 y0 0 z0 dr p0 pa 0 s0 im ki tr v0 rf), (oX6 p0 p1 p2 p3 p4 (nI w)), (aI g p1 24 sd), (aI g p2 10 fn), (aI g p3 6 st), (aI g p4 6 me), (oX8 s0 h0 a0 b0 e0), (oX4 h0 q0 q1 mo), (aI g q0 24 f), (oX2 b0 b1 b2 x y rl hd th), (oX3 e0 e1 e2), (aI g e1 36 co), (oX7 z0 y0 (nI n) (nI k2_12) fb_13 pb_14 z1), (aB g y0 500 tp), (aI g z1 3 nv_15), (oX6 dr d1 d2 d3 d4 (nI uw_16)), (aI g d1 24 ud_17), (aI g d2 10 un_18), (aI g d3 6 ut_19), (aI g d4 6 um_20)] := hD
        refine lv_aload_n hx hb dX10_siege_82 rfl (lv_at hl 2 rfl) ?_
        refine lv_iconst (v := 0) hx hb dX10_siege_83 (by decide) ?_
        refine va_put (v := .int 0) (ty := .int) (T := TX10) (N := 13) hx hb hts inX10 tyX10 tyX10_ok nmX10 hown hK hP hD hS 0 rfl rfl 9 (by decide) f95 (fun _ h9 => h9) rfl (by decide +kernel) rfl rfl (Nat.le_of_ble_eq_true rfl) dX10_siege_84 (fun H locs hP hD hS => ?_)
        have hP : va_P g.1 vwCl [(oX10 x0 y0 0 z0 dr p0 pa 0 s0 im 0 tr v0 rf), (oX6 p0 p1 p2 p3 p4 (nI w)), (aI g p1 24 sd), (aI g p2 10 fn), (aI g p3 6 st), (aI g p4 6 me), (oX8 s0 h0 a0 b0 e0), (oX4 h0 q0 q1 mo), (aI g q0 24 f), (oX2 b0 b1 b2 x y rl hd th), (oX3 e0 e1 e2), (aI g e1 36 co), (oX7 z0 y0 (nI n) (nI k2_12) fb_13 pb_14 z1), (aB g y0 500 tp), (aI g z1 3 nv_15), (oX6 dr d1 d2 d3 d4 (nI uw_16)), (aI g d1 24 ud_17), (aI g d2 10 un_18), (aI g d3 6 ut_19), (aI g d4 6 um_20)] H := hP
        have hD : va_D A [(oX10 x0 y0 0 z0 dr p0 pa 0 s0 im 0 tr v0 rf), (oX6 p0 p1 p2 p3 p4 (nI w)), (aI g p1 24 sd), (aI g p2 10 fn), (aI g p3 6 st), (aI g p4 6 me), (oX8 s0 h0 a0 b0 e0), (oX4 h0 q0 q1 mo), (aI g q0 24 f), (oX2 b0 b1 b2 x y rl hd th), (oX3 e0 e1 e2), (aI g e1 36 co), (oX7 z0 y0 (nI n) (nI k2_12) fb_13 pb_14 z1), (aB g y0 500 tp), (aI g z1 3 nv_15), (oX6 dr d1 d2 d3 d4 (nI uw_16)), (aI g d1 24 ud_17), (aI g d2 10 un_18), (aI g d3 6 ut_19), (aI g d4 6 um_20)] := hD
        refine lv_aload_n hx hb dX10_siege_87 rfl (lv_at hl 2 rfl) ?_
        refine va_get (v := .ref s0) (T := TX10) (N := 13) hx hb hts inX10 hown hK hP 0 rfl rfl 7 (by decide) f39 (fun _ h9 => h9) rfl dX10_siege_88 ?_
        refine lv_aload_n hx hb dX10_siege_91 rfl (lv_at hl 2 rfl) ?_
        refine va_get (v := .ref dr) (T := TX10) (N := 13) hx hb hts inX10 hown hK hP 0 rfl rfl 3 (by decide) f23 (fun _ h9 => h9) rfl dX10_siege_92 ?_
        refine he_cv (wc := [(oX8 s0 h0 a0 b0 e0), (oX4 h0 q0 q1 mo), (aI g q0 24 f), (oX2 b0 b1 b2 x y rl hd th), (oX3 e0 e1 e2), (aI g e1 36 co), (oX6 dr d1 d2 d3 d4 (nI uw_16)), (aI g d1 24 ud_17), (aI g d3 6 ut_19)]) (wr := [(oX10 x0 y0 0 z0 dr p0 pa 0 s0 im 0 tr v0 rf), (oX6 p0 p1 p2 p3 p4 (nI w)), (aI g p1 24 sd), (aI g p2 10 fn), (aI g p3 6 st), (aI g p4 6 me), (oX7 z0 y0 (nI n) (nI k2_12) fb_13 pb_14 z1), (aB g y0 500 tp), (aI g z1 3 nv_15), (aI g d2 10 un_18), (aI g d4 6 um_20)]) (va_runV (As := [.ref dr]) (rest := []) ⟨hx, hb, hml, hown, hts⟩ (c_X8_begin l g s0 a0 h0 q0 q1 mo f b0 b1 b2 x y rl hd th e0 e1 e2 co dr d1 d2 d3 d4 uw_16 ud_17 ut_19 (by first | assumption | decide | omega) H.size) (cwV 1 hts gX10_siege_X8_begin rfl rfl rfl (by decide +kernel) ⟨Nat.le_of_ble_eq_true rfl, Nat.le_of_ble_eq_true rfl⟩) (he_preV (wc := [(oX8 s0 h0 a0 b0 e0), (oX4 h0 q0 q1 mo), (aI g q0 24 f), (oX2 b0 b1 b2 x y rl hd th), (oX3 e0 e1 e2), (aI g e1 36 co), (oX6 dr d1 d2 d3 d4 (nI uw_16)), (aI g d1 24 ud_17), (aI g d3 6 ut_19)]) hK hP hD hS hA hE [6, 7, 8, 9, 10, 11, 15, 16, 18] rfl rfl 6 rfl rfl) rfl rfl hl.1 rfl (lv_room (Nat.le_of_ble_eq_true rfl)) dX10_siege_95 ⟨(Nat.le_of_ble_eq_true rfl), (Nat.le_of_ble_eq_true rfl)⟩) hP hD hS hA [6, 7, 8, 9, 10, 11, 15, 16, 18] [0, 1, 2, 3, 4, 5, 12, 13, 14, 17, 19] rfl rfl rfl (by decide) (fun u_32 H locs h_33 hP hD hS => ?_)
        have hP : va_P g.1 vwCl [(oX10 x0 y0 0 z0 dr p0 pa 0 s0 im 0 tr v0 rf), (oX6 p0 p1 p2 p3 p4 (nI w)), (aI g p1 24 sd), (aI g p2 10 fn), (aI g p3 6 st), (aI g p4 6 me), (oX7 z0 y0 (nI n) (nI k2_12) fb_13 pb_14 z1), (aB g y0 500 tp), (aI g z1 3 nv_15), (aI g d2 10 un_18), (aI g d4 6 um_20), (oX8 s0 h0 a0 b0 e0), (oX4 h0 q0 q1 0), (aI g q0 24 (beginF ud_17 ut_19 uw_16 f)), (oX2 b0 b1 b2 x y (Int32.toInt64 x) (Int32.toInt64 y) 0), (oX3 e0 e1 e2), (aI g e1 36 (flF (fun _ => 0) co 36)), (oX6 dr d1 d2 d3 d4 (nI uw_16)), (aI g d1 24 ud_17), (aI g d3 6 ut_19)] H := hP
        have hD : va_D A [(oX10 x0 y0 0 z0 dr p0 pa 0 s0 im 0 tr v0 rf), (oX6 p0 p1 p2 p3 p4 (nI w)), (aI g p1 24 sd), (aI g p2 10 fn), (aI g p3 6 st), (aI g p4 6 me), (oX7 z0 y0 (nI n) (nI k2_12) fb_13 pb_14 z1), (aB g y0 500 tp), (aI g z1 3 nv_15), (aI g d2 10 un_18), (aI g d4 6 um_20), (oX8 s0 h0 a0 b0 e0), (oX4 h0 q0 q1 0), (aI g q0 24 (beginF ud_17 ut_19 uw_16 f)), (oX2 b0 b1 b2 x y (Int32.toInt64 x) (Int32.toInt64 y) 0), (oX3 e0 e1 e2), (aI g e1 36 (flF (fun _ => 0) co 36)), (oX6 dr d1 d2 d3 d4 (nI uw_16)), (aI g d1 24 ud_17), (aI g d3 6 ut_19)] := hD
        refine lv_aload_n hx hb dX10_siege_98 rfl (lv_at hl 2 rfl) ?_
        refine va_get (v := .ref dr) (T := TX10) (N := 13) hx hb hts inX10 hown hK hP 0 rfl rfl 3 (by decide) f23 (fun _ h9 => h9) rfl dX10_siege_99 ?_
        refine va_get (v := .int (nI uw_16)) (T := TX6) (N := 5) hx hb hts inX6 hown hK hP 17 rfl rfl 4 (by decide) f99 (fun _ h9 => h9) rfl dX10_siege_102 ?_
        have hP := hP.sub (ws' := [(oX10 x0 y0 0 z0 dr p0 pa 0 s0 im 0 tr v0 rf), (oX6 p0 p1 p2 p3 p4 (nI w)), (aI g p1 24 sd), (aI g p2 10 fn), (aI g p3 6 st), (aI g p4 6 me), (oX6 dr d1 d2 d3 d4 (nI uw_16)), (aI g d1 24 ud_17), (aI g d2 10 un_18), (aI g d3 6 ut_19), (aI g d4 6 um_20), (oX7 z0 y0 (nI n) (nI k2_12) fb_13 pb_14 z1), (aB g y0 500 tp), (aI g z1 3 nv_15), (oX8 s0 h0 a0 b0 e0), (oX4 h0 q0 q1 0), (aI g q0 24 (beginF ud_17 ut_19 uw_16 f)), (oX2 b0 b1 b2 x y (Int32.toInt64 x) (Int32.toInt64 y) 0), (oX3 e0 e1 e2), (aI g e1 36 (flF (fun _ => 0) co 36))]) [0, 1, 2, 3, 4, 5, 17, 18, 9, 19, 10, 6, 7, 8, 11, 12, 13, 14, 15, 16] rfl
        have hD := hD.sub (ws' := [(oX10 x0 y0 0 z0 dr p0 pa 0 s0 im 0 tr v0 rf), (oX6 p0 p1 p2 p3 p4 (nI w)), (aI g p1 24 sd), (aI g p2 10 fn), (aI g p3 6 st), (aI g p4 6 me), (oX6 dr d1 d2 d3 d4 (nI uw_16)), (aI g d1 24 ud_17), (aI g d2 10 un_18), (aI g d3 6 ut_19), (aI g d4 6 um_20), (oX7 z0 y0 (nI n) (nI k2_12) fb_13 pb_14 z1), (aB g y0 500 tp), (aI g z1 3 nv_15), (oX8 s0 h0 a0 b0 e0), (oX4 h0 q0 q1 0), (aI g q0 24 (beginF ud_17 ut_19 uw_16 f)), (oX2 b0 b1 b2 x y (Int32.toInt64 x) (Int32.toInt64 y) 0), (oX3 e0 e1 e2), (aI g e1 36 (flF (fun _ => 0) co 36))]) [0, 1, 2, 3, 4, 5, 17, 18, 9, 19, 10, 6, 7, 8, 11, 12, 13, 14, 15, 16] (by decide) rfl
        exact he_ri hQ hx hb hr hlk hP hD hS dX10_siege_105 (Nat.le_of_ble_eq_true rfl) (Nat.le_of_ble_eq_true rfl) ((dr, p0, 0, 0, k2_12, fb_13, pb_14, nv_15, uw_16, ud_17, un_18, ut_19, um_20, 0, beginF ud_17 ut_19 uw_16 f, Int32.toInt64 x, Int32.toInt64 y, 0, flF (fun _ => 0) co 36)) (rfl) (⟨by dsimp only; exact hf_29, Or.inr ⟨rfl, rfl, rfl, rfl, rfl, rfl, rfl, rfl, Eq.trans (Eq.symm hf_21) c_30, rfl⟩, hf_22, hf_23, hf_24, hf_25, hf_26, hf_27, hf_28⟩)
      · refine lv_iload_n hx hb dX10_siege_54 rfl (lv_at hl 0 rfl) ?_
        refine lv_bipush (v := 10) hx hb dX10_siege_55 (by decide) ?_
        refine lv_isub hx hb dX10_siege_57 ?_
        have hP := hP.sub (ws' := [(oX10 x0 y0 0 z0 p0 dr pa to_ s0 im ki tr v0 rf), (oX6 p0 p1 p2 p3 p4 (nI w)), (aI g p1 24 sd), (aI g p2 10 fn), (aI g p3 6 st), (aI g p4 6 me), (oX6 dr d1 d2 d3 d4 (nI uw_16)), (aI g d1 24 ud_17), (aI g d2 10 un_18), (aI g d3 6 ut_19), (aI g d4 6 um_20), (oX7 z0 y0 (nI n) (nI k2_12) fb_13 pb_14 z1), (aB g y0 500 tp), (aI g z1 3 nv_15), (oX8 s0 h0 a0 b0 e0), (oX4 h0 q0 q1 mo), (aI g q0 24 f), (oX2 b0 b1 b2 x y rl hd th), (oX3 e0 e1 e2), (aI g e1 36 co)]) [0, 1, 2, 3, 4, 5, 15, 16, 17, 18, 19, 12, 13, 14, 6, 7, 8, 9, 10, 11] rfl
        have hD := hD.sub (ws' := [(oX10 x0 y0 0 z0 p0 dr pa to_ s0 im ki tr v0 rf), (oX6 p0 p1 p2 p3 p4 (nI w)), (aI g p1 24 sd), (aI g p2 10 fn), (aI g p3 6 st), (aI g p4 6 me), (oX6 dr d1 d2 d3 d4 (nI uw_16)), (aI g d1 24 ud_17), (aI g d2 10 un_18), (aI g d3 6 ut_19), (aI g d4 6 um_20), (oX7 z0 y0 (nI n) (nI k2_12) fb_13 pb_14 z1), (aB g y0 500 tp), (aI g z1 3 nv_15), (oX8 s0 h0 a0 b0 e0), (oX4 h0 q0 q1 mo), (aI g q0 24 f), (oX2 b0 b1 b2 x y rl hd th), (oX3 e0 e1 e2), (aI g e1 36 co)]) [0, 1, 2, 3, 4, 5, 15, 16, 17, 18, 19, 12, 13, 14, 6, 7, 8, 9, 10, 11] (by decide) rfl
        exact he_ri hQ hx hb hr hlk hP hD hS dX10_siege_58 (Nat.le_of_ble_eq_true rfl) (Nat.le_of_ble_eq_true rfl) ((p0, dr, to_, ki, k2_12, fb_13, pb_14, nv_15, uw_16, ud_17, un_18, ut_19, um_20, mo, f, rl, hd, th, co)) (rfl) (⟨by dsimp only; exact hf_29, Or.inl ⟨rfl, rfl, rfl, rfl, rfl, rfl, rfl, rfl, rfl, rfl, fun h9 => c_30 (Eq.trans hf_21 h9), by dsimp only; rw [hf_21]⟩, hf_22, hf_23, hf_24, hf_25, hf_26, hf_27, hf_28⟩)
set_option maxHeartbeats 4000000 in
set_option maxRecDepth 100000 in
theorem p_X10_contract (l : Launch) (g : he_G) (x0 : Nat) (y0 : Nat) (z0 : Nat) (dr : Nat) (pa : Nat) (s0 : Nat) (im : Nat) (tr : Nat) (v0 : Nat) (rf : Nat) (k : Nat) (nt : Nat) (ki : Int32) (p0 : Nat) (p1 : Nat) (p2 : Nat) (p3 : Nat) (p4 : Nat) (w : Nat) (t0 : Nat) (t1 : Nat) (t2 : Nat) (pw : Int32) (pd : Nat → Int32) (wb : Nat → Int32) (pf : Nat → Option Nat) (z1 : Nat) (y1 : Nat) (n1 : Int32) (at1 : Int32) (fa : Int32) (pl : Int32) (tp : Nat → Int32) (nu : Nat → Int32) (n : Nat) (T : Nat → Nat) (hnk : n ≤ k) (hk5 : k ≤ 500) (hn2 : n ≤ 200) (hnt : nt < 6) (hw6 : w ≤ 6) (hpf : pf nt = some t0) (hT : ∀ j, j < n → T j < 256 ∧ tp j = sbI (T j)) : he_I l yX10_contract wsX10_contract 8 185 0 0 g [.ref x0, .int (nI n)] [(oX10 x0 y0 (nI k) z0 p0 dr pa (nI nt) s0 im ki tr v0 rf), (oX6 p0 p1 p2 p3 p4 (nI w)), (aP g pa 7 pf), (oX5 t0 t1 t2 pw), (aI g t1 6 pd), (aI g t2 36 wb), (oX7 z0 y1 n1 at1 fa pl z1), (aB g y0 500 tp), (aI g z1 3 nu)] (fun (r : Int32) (u : Nat × Nat × Int32 × Int32 × (Nat → Int32) × (Nat → Int32) × (Nat → Int32) × Int32) => ((u.1 = nt ∧ ¬ u.2.2.1 = 0 ∧ r = u.2.2.1 - 10) ∨ (u.1 = nt + 1 ∧ u.2.2.1 = 0 ∧ r = nI nt)) ∧ (u.2.2.1 = faC (txP T n wl5 (bd5 w) (fun b _ => fl5 b) 21 0 0 0).1) ∧ (u.2.2.2.1 = faP (txP T n wl5 (bd5 w) (fun b _ => fl5 b) 21 0 0 0).1) ∧ (u.2.2.2.2.2.1 = fdRl (txP T n wl5 (bd5 w) (fun b _ => fl5 b) 21 0 0 0).2 (clP pd)) ∧ (u.2.2.2.2.2.2.1 = fdB (txP T n wl5 (bd5 w) (fun b _ => fl5 b) 21 0 0 0).2 (flF (fun _ => -1) wb 36))) (fun (u : Nat × Nat × Int32 × Int32 × (Nat → Int32) × (Nat → Int32) × (Nat → Int32) × Int32) => [(oX10 x0 y0 0 z0 p0 dr pa (nI u.1) s0 im ki tr v0 rf), (oX6 p0 p1 p2 p3 p4 (nI w)), (aP g pa 7 pf), (oX5 t0 t1 t2 u.2.2.2.2.2.2.2), (aI g t1 6 u.2.2.2.2.2.1), (aI g t2 36 u.2.2.2.2.2.2.1), (oX7 z0 y0 (nI n) (nI u.2.1) u.2.2.1 u.2.2.2.1 z1), (aB g y0 500 tp), (aI g z1 3 u.2.2.2.2.1)]) := by
  refine he_begin (l := l) (g := g) (y := yX10_contract) (wl := wsX10_contract) (fr := 8) (lo := 185) (mc := 0) (ms := 0) (av := [.ref x0, .int (nI n)]) (ws := [(oX10 x0 y0 (nI k) z0 p0 dr pa (nI nt) s0 im ki tr v0 rf), (oX6 p0 p1 p2 p3 p4 (nI w)), (aP g pa 7 pf), (oX5 t0 t1 t2 pw), (aI g t1 6 pd), (aI g t2 36 wb), (oX7 z0 y1 n1 at1 fa pl z1), (aB g y0 500 tp), (aI g z1 3 nu)]) (cc := cX10_contract) (maxL := 4) (ret := (some .int)) (fun A => va_Qi (fun (r : Int32) (u : Nat × Nat × Int32 × Int32 × (Nat → Int32) × (Nat → Int32) × (Nat → Int32) × Int32) => ((u.1 = nt ∧ ¬ u.2.2.1 = 0 ∧ r = u.2.2.1 - 10) ∨ (u.1 = nt + 1 ∧ u.2.2.1 = 0 ∧ r = nI nt)) ∧ (u.2.2.1 = faC (txP T n wl5 (bd5 w) (fun b _ => fl5 b) 21 0 0 0).1) ∧ (u.2.2.2.1 = faP (txP T n wl5 (bd5 w) (fun b _ => fl5 b) 21 0 0 0).1) ∧ (u.2.2.2.2.2.1 = fdRl (txP T n wl5 (bd5 w) (fun b _ => fl5 b) 21 0 0 0).2 (clP pd)) ∧ (u.2.2.2.2.2.2.1 = fdB (txP T n wl5 (bd5 w) (fun b _ => fl5 b) 21 0 0 0).2 (flF (fun _ => -1) wb 36))) (fun u t => he_post g A ((fun (u : Nat × Nat × Int32 × Int32 × (Nat → Int32) × (Nat → Int32) × (Nat → Int32) × Int32) => [(oX10 x0 y0 0 z0 p0 dr pa (nI u.1) s0 im ki tr v0 rf), (oX6 p0 p1 p2 p3 p4 (nI w)), (aP g pa 7 pf), (oX5 t0 t1 t2 u.2.2.2.2.2.2.2), (aI g t1 6 u.2.2.2.2.2.1), (aI g t2 36 u.2.2.2.2.2.2.1), (oX7 z0 y0 (nI n) (nI u.2.1) u.2.2.1 u.2.2.2.1 z1), (aB g y0 500 tp), (aI g z1 3 u.2.2.2.2.1)]) u) t) A) (by decide) rfl (Nat.le_of_ble_eq_true rfl) ?_
  intro p e s m args below meth c A ls H locs Q hQ hB
  obtain ⟨hx, hb, hr, hml, hown, hts, hlk, hin, hP, hK, hD, hS, hA, hE, hl⟩ := hB
  have hl : lv_has ls 4 [(0, .ref x0), (1, .int (nI n))] := hl
  have f73 := hts (.fieldLink RX10 73 "HiredEnemy" "taped" "I") (iwoX10_contract (k := 0) rfl)
  have inX10 : ∀ w ∈ wsX100, w ∈ wsX10_contract := innX10_contract_X10
  have f92 := hts (.fieldLink RX10 92 "HiredEnemy" "pactsTold" "I") (iwoX10_contract (k := 1) rfl)
  have f32 := hts (.fieldLink RX10 32 "HiredEnemy" "pacts" "[LHiredEnemy$Pact;") (iwoX10_contract (k := 4) rfl)
  have f23 := hts (.fieldLink RX10 23 "HiredEnemy" "plan" "LHiredEnemy$Plan;") (iwoX10_contract (k := 5) rfl)
  have f99 := hts (.fieldLink RX10 99 "HiredEnemy$Plan" "walls" "I") (iwoX10_contract (k := 6) rfl)
  have inX6 : ∀ w ∈ wsX60, w ∈ wsX10_contract := innX10_contract_X6
  have f16 := hts (.fieldLink RX10 16 "HiredEnemy" "reader" "LHiredEnemy$Reader;") (iwoX10_contract (k := 2) rfl)
  have f9 := hts (.fieldLink RX10 9 "HiredEnemy" "tape" "[B") (iwoX10_contract (k := 7) rfl)
  refine lv_aload_n hx hb dX10_contract_0 rfl (lv_at hl 0 rfl) ?_
  refine lv_iload_n hx hb dX10_contract_1 rfl (lv_at hl 1 rfl) ?_
  refine lv_if_lt (tgt := 24) hx hb dX10_contract_2 (by decide) (fun c_1 => ?_) (fun c_1 => ?_)
  · exact absurd c_1 (nI_pos (by omega))
  · refine lv_iload_n hx hb dX10_contract_5 rfl (lv_at hl 1 rfl) ?_
    refine lv_aload_n hx hb dX10_contract_6 rfl (lv_at hl 0 rfl) ?_
    refine va_get (v := .int (nI k)) (T := TX10) (N := 13) hx hb hts inX10 hown hK hP 0 rfl rfl 1 (by decide) f73 (fun _ h9 => h9) rfl dX10_contract_7 ?_
    refine lv_icmp_gt (tgt := 24) hx hb dX10_contract_10 (by decide) (fun c_2 => ?_) (fun c_2 => ?_)
    · exact absurd c_2 (fun h9 => absurd ((nI_ltI (by omega) (by omega)).mp h9) (by omega))
    · refine lv_iload_n hx hb dX10_contract_13 rfl (lv_at hl 1 rfl) ?_
      refine lv_sipush (v := 200) hx hb dX10_contract_14 (by decide) ?_
      refine lv_icmp_gt (tgt := 24) hx hb dX10_contract_17 (by decide) (fun c_3 => ?_) (fun c_3 => ?_)
      · exact absurd c_3 (fun h9 => absurd ((he_clt (a := 200) (b := n) (by decide) rfl (by decide) (by omega)).mp h9) (by omega))
      · refine lv_iconst (v := 1) hx hb dX10_contract_20 (by decide) ?_
        refine lv_goto (tgt := 25) hx hb dX10_contract_21 (by decide) ?_
        refine he_cv (wc := []) (wr := [(oX10 x0 y0 (nI k) z0 p0 dr pa (nI nt) s0 im ki tr v0 rf), (oX6 p0 p1 p2 p3 p4 (nI w)), (aP g pa 7 pf), (oX5 t0 t1 t2 pw), (aI g t1 6 pd), (aI g t2 36 wb), (oX7 z0 y1 n1 at1 fa pl z1), (aB g y0 500 tp), (aI g z1 3 nu)]) (va_runV (As := [.int 1]) (rest := []) ⟨hx, hb, hml, hown, hts⟩ (c_X10_demand1 l g x0 H.size) (cwV 1 hts gX10_contract_X10_demand rfl rfl rfl (by decide +kernel) ⟨Nat.le_of_ble_eq_true rfl, Nat.le_of_ble_eq_true rfl⟩) (he_preV (wc := []) hK hP hD hS hA hE [] rfl rfl 0 rfl rfl) rfl rfl hl.1 rfl (lv_room (Nat.le_of_ble_eq_true rfl)) dX10_contract_25 ⟨(Nat.le_of_ble_eq_true rfl), (Nat.le_of_ble_eq_true rfl)⟩) hP hD hS hA [] [0, 1, 2, 3, 4, 5, 6, 7, 8] rfl rfl rfl (by decide) (fun u_5 H locs h_6 hP hD hS => ?_)
        have hP : va_P g.1 vwCl [(oX10 x0 y0 (nI k) z0 p0 dr pa (nI nt) s0 im ki tr v0 rf), (oX6 p0 p1 p2 p3 p4 (nI w)), (aP g pa 7 pf), (oX5 t0 t1 t2 pw), (aI g t1 6 pd), (aI g t2 36 wb), (oX7 z0 y1 n1 at1 fa pl z1), (aB g y0 500 tp), (aI g z1 3 nu)] H := hP
        have hD : va_D A [(oX10 x0 y0 (nI k) z0 p0 dr pa (nI nt) s0 im ki tr v0 rf), (oX6 p0 p1 p2 p3 p4 (nI w)), (aP g pa 7 pf), (oX5 t0 t1 t2 pw), (aI g t1 6 pd), (aI g t2 36 wb), (oX7 z0 y1 n1 at1 fa pl z1), (aB g y0 500 tp), (aI g z1 3 nu)] := hD
        refine lv_aload_n hx hb dX10_contract_28 rfl (lv_at hl 0 rfl) ?_
        refine lv_iconst (v := 0) hx hb dX10_contract_29 (by decide) ?_
        refine va_put (v := .int 0) (ty := .int) (T := TX10) (N := 13) hx hb hts inX10 tyX10 tyX10_ok nmX10 hown hK hP hD hS 0 rfl rfl 1 (by decide) f73 (fun _ h9 => h9) rfl (by decide +kernel) rfl rfl (Nat.le_of_ble_eq_true rfl) dX10_contract_30 (fun H locs hP hD hS => ?_)
        have hP : va_P g.1 vwCl [(oX10 x0 y0 0 z0 p0 dr pa (nI nt) s0 im ki tr v0 rf), (oX6 p0 p1 p2 p3 p4 (nI w)), (aP g pa 7 pf), (oX5 t0 t1 t2 pw), (aI g t1 6 pd), (aI g t2 36 wb), (oX7 z0 y1 n1 at1 fa pl z1), (aB g y0 500 tp), (aI g z1 3 nu)] H := hP
        have hD : va_D A [(oX10 x0 y0 0 z0 p0 dr pa (nI nt) s0 im ki tr v0 rf), (oX6 p0 p1 p2 p3 p4 (nI w)), (aP g pa 7 pf), (oX5 t0 t1 t2 pw), (aI g t1 6 pd), (aI g t2 36 wb), (oX7 z0 y1 n1 at1 fa pl z1), (aB g y0 500 tp), (aI g z1 3 nu)] := hD
        refine lv_aload_n hx hb dX10_contract_33 rfl (lv_at hl 0 rfl) ?_
        refine va_get (v := .int (nI nt)) (T := TX10) (N := 13) hx hb hts inX10 hown hK hP 0 rfl rfl 6 (by decide) f92 (fun _ h9 => h9) rfl dX10_contract_34 ?_
        refine lv_bipush (v := 6) hx hb dX10_contract_37 (by decide) ?_
        refine lv_icmp_lt (tgt := 52) hx hb dX10_contract_39 (by decide) (fun c_7 => ?_) (fun c_7 => ?_)
        · refine lv_aload_n hx hb dX10_contract_52 rfl (lv_at hl 0 rfl) ?_
          refine va_get (v := .ref pa) (T := TX10) (N := 13) hx hb hts inX10 hown hK hP 0 rfl rfl 5 (by decide) f32 (fun _ h9 => h9) rfl dX10_contract_53 ?_
          refine lv_aload_n hx hb dX10_contract_56 rfl (lv_at hl 0 rfl) ?_
          refine va_get (v := .int (nI nt)) (T := TX10) (N := 13) hx hb hts inX10 hown hK hP 0 rfl rfl 6 (by decide) f92 (fun _ h9 => h9) rfl dX10_contract_57 ?_
          refine he_ald hx hb 2 rfl hK hP 2 rfl (nt) rfl (by first | assumption | decide | omega) (by first | decide | assumption) (.ref t0) (by rw [hpf]; rfl) dX10_contract_60 ?_
          refine lv_astore_n (lv' := [(2, .ref t0), (0, .ref x0), (1, .int (nI n))]) hx hb dX10_contract_61 rfl hl (by decide) rfl (fun ls hl => ?_)
          refine lv_aload_n hx hb dX10_contract_62 rfl (lv_at hl 0 rfl) ?_
          refine lv_aload_n hx hb dX10_contract_63 rfl (lv_at hl 1 rfl) ?_
          refine va_get (v := .ref p0) (T := TX10) (N := 13) hx hb hts inX10 hown hK hP 0 rfl rfl 3 (by decide) f23 (fun _ h9 => h9) rfl dX10_contract_64 ?_
          refine va_get (v := .int (nI w)) (T := TX6) (N := 5) hx hb hts inX6 hown hK hP 1 rfl rfl 4 (by decide) f99 (fun _ h9 => h9) rfl dX10_contract_67 ?_
          refine he_cv (wc := [(oX5 t0 t1 t2 pw), (aI g t1 6 pd), (aI g t2 36 wb)]) (wr := [(oX10 x0 y0 0 z0 p0 dr pa (nI nt) s0 im ki tr v0 rf), (oX6 p0 p1 p2 p3 p4 (nI w)), (aP g pa 7 pf), (oX7 z0 y1 n1 at1 fa pl z1), (aB g y0 500 tp), (aI g z1 3 nu)]) (va_runV (As := [.int (nI w)]) (rest := []) ⟨hx, hb, hml, hown, hts⟩ (c_X5_clear l g t0 t1 t2 pw pd wb (nI w) H.size) (cwV 1 hts gX10_contract_X5_clear rfl rfl rfl (by decide +kernel) ⟨Nat.le_of_ble_eq_true rfl, Nat.le_of_ble_eq_true rfl⟩) (he_preV (wc := [(oX5 t0 t1 t2 pw), (aI g t1 6 pd), (aI g t2 36 wb)]) hK hP hD hS hA hE [3, 4, 5] rfl rfl 3 rfl rfl) rfl rfl hl.1 rfl (lv_room (Nat.le_of_ble_eq_true rfl)) dX10_contract_70 ⟨(Nat.le_of_ble_eq_true rfl), (Nat.le_of_ble_eq_true rfl)⟩) hP hD hS hA [3, 4, 5] [0, 1, 2, 6, 7, 8] rfl rfl rfl (by decide) (fun u_9 H locs h_10 hP hD hS => ?_)
          have hP : va_P g.1 vwCl [(oX10 x0 y0 0 z0 p0 dr pa (nI nt) s0 im ki tr v0 rf), (oX6 p0 p1 p2 p3 p4 (nI w)), (aP g pa 7 pf), (oX7 z0 y1 n1 at1 fa pl z1), (aB g y0 500 tp), (aI g z1 3 nu), (oX5 t0 t1 t2 (nI w)), (aI g t1 6 (clP pd)), (aI g t2 36 (flF (fun _ => -1) wb 36))] H := hP
          have hD : va_D A [(oX10 x0 y0 0 z0 p0 dr pa (nI nt) s0 im ki tr v0 rf), (oX6 p0 p1 p2 p3 p4 (nI w)), (aP g pa 7 pf), (oX7 z0 y1 n1 at1 fa pl z1), (aB g y0 500 tp), (aI g z1 3 nu), (oX5 t0 t1 t2 (nI w)), (aI g t1 6 (clP pd)), (aI g t2 36 (flF (fun _ => -1) wb 36))] := hD
          refine lv_aload_n hx hb dX10_contract_73 rfl (lv_at hl 1 rfl) ?_
          refine va_get (v := .ref z0) (T := TX10) (N := 13) hx hb hts inX10 hown hK hP 0 rfl rfl 2 (by decide) f16 (fun _ h9 => h9) rfl dX10_contract_74 ?_
          refine lv_aload_n hx hb dX10_contract_77 rfl (lv_at hl 1 rfl) ?_
          refine va_get (v := .ref y0) (T := TX10) (N := 13) hx hb hts inX10 hown hK hP 0 rfl rfl 0 (by decide) f9 (fun _ h9 => h9) rfl dX10_contract_78 ?_
          refine lv_iload_n hx hb dX10_contract_81 rfl (lv_at hl 2 rfl) ?_
          refine lv_aload_n hx hb dX10_contract_82 rfl (lv_at hl 0 rfl) ?_
          refine he_ci (wc := [(oX7 z0 y1 n1 at1 fa pl z1), (aB g y0 500 tp), (aI g z1 3 nu), (oX5 t0 t1 t2 (nI w)), (aI g t1 6 (clP pd)), (aI g t2 36 (flF (fun _ => -1) wb 36))]) (wr := [(oX10 x0 y0 0 z0 p0 dr pa (nI nt) s0 im ki tr v0 rf), (oX6 p0 p1 p2 p3 p4 (nI w)), (aP g pa 7 pf)]) (va_runV (As := [.ref y0, .int (nI n), .ref t0]) (rest := []) ⟨hx, hb, hml, hown, hts⟩ (p_X7_read5 l g z0 z1 y0 n y1 n1 at1 fa pl tp T nu t0 t1 t2 w (clP pd) (flF (fun _ => -1) wb 36) (by omega) (by first | assumption | decide | omega) (by first | assumption | decide | omega) H.size) (cwV 3 hts gX10_contract_X7_read rfl rfl rfl (by decide +kernel) ⟨Nat.le_of_ble_eq_true rfl, Nat.le_of_ble_eq_true rfl⟩) (he_preV (wc := [(oX7 z0 y1 n1 at1 fa pl z1), (aB g y0 500 tp), (aI g z1 3 nu), (oX5 t0 t1 t2 (nI w)), (aI g t1 6 (clP pd)), (aI g t2 36 (flF (fun _ => -1) wb 36))]) hK hP hD hS hA hE [3, 4, 5, 6, 7, 8] rfl rfl 3 rfl rfl) rfl rfl hl.1 rfl (lv_room (Nat.le_of_ble_eq_true rfl)) dX10_contract_83 ⟨(Nat.le_of_ble_eq_true rfl), (Nat.le_of_ble_eq_true rfl)⟩) hP hD hS hA [3, 4, 5, 6, 7, 8] [0, 1, 2] rfl rfl rfl (by decide) (fun r_11 u_12 H locs h_13 hP hD hS => ?_)
          obtain ⟨k2_14, fb_15, pb_16, nv_17, ud_18, ub_19⟩ := u_12
          try dsimp only at h_13
          obtain ⟨hf_20, hf_21, hf_22, hf_23, hf_24⟩ := h_13
          have hP : va_P g.1 vwCl [(oX10 x0 y0 0 z0 p0 dr pa (nI nt) s0 im ki tr v0 rf), (oX6 p0 p1 p2 p3 p4 (nI w)), (aP g pa 7 pf), (oX7 z0 y0 (nI n) (nI k2_14) fb_15 pb_16 z1), (aB g y0 500 tp), (aI g z1 3 nv_17), (oX5 t0 t1 t2 (nI w)), (aI g t1 6 ud_18), (aI g t2 36 ub_19)] H := hP
          have hD : va_D A [(oX10 x0 y0 0 z0 p0 dr pa (nI nt) s0 im ki tr v0 rf), (oX6 p0 p1 p2 p3 p4 (nI w)), (aP g pa 7 pf), (oX7 z0 y0 (nI n) (nI k2_14) fb_15 pb_16 z1), (aB g y0 500 tp), (aI g z1 3 nv_17), (oX5 t0 t1 t2 (nI w)), (aI g t1 6 ud_18), (aI g t2 36 ub_19)] := hD
          refine lv_istore_n (lv' := [(3, .int r_11), (2, .ref t0), (0, .ref x0), (1, .int (nI n))]) hx hb dX10_contract_86 rfl hl (by decide) rfl (fun ls hl => ?_)
          refine lv_iload_n hx hb dX10_contract_87 rfl (lv_at hl 0 rfl) ?_
          refine lv_if_eq (tgt := 96) hx hb dX10_contract_88 (by decide) (fun c_25 => ?_) (fun c_25 => ?_)
          · refine lv_aload_n hx hb dX10_contract_96 rfl (lv_at hl 2 rfl) ?_
            refine lv_dup hx hb dX10_contract_97 rfl ?_
            refine va_get (v := .int (nI nt)) (T := TX10) (N := 13) hx hb hts inX10 hown hK hP 0 rfl rfl 6 (by decide) f92 (fun _ h9 => h9) rfl dX10_contract_98 ?_
            refine lv_iconst (v := 1) hx hb dX10_contract_101 (by decide) ?_
            refine lv_iadd hx hb dX10_contract_102 ?_
            refine he_top (nI (nt + 1)) (nI_add nt 1) ?_
            refine va_put (v := .int (nI (nt + 1))) (ty := .int) (T := TX10) (N := 13) hx hb hts inX10 tyX10 tyX10_ok nmX10 hown hK hP hD hS 0 rfl rfl 6 (by decide) f92 (fun _ h9 => h9) rfl (by decide +kernel) rfl rfl (Nat.le_of_ble_eq_true rfl) dX10_contract_103 (fun H locs hP hD hS => ?_)
            have hP : va_P g.1 vwCl [(oX10 x0 y0 0 z0 p0 dr pa (nI (nt + 1)) s0 im ki tr v0 rf), (oX6 p0 p1 p2 p3 p4 (nI w)), (aP g pa 7 pf), (oX7 z0 y0 (nI n) (nI k2_14) fb_15 pb_16 z1), (aB g y0 500 tp), (aI g z1 3 nv_17), (oX5 t0 t1 t2 (nI w)), (aI g t1 6 ud_18), (aI g t2 36 ub_19)] H := hP
            have hD : va_D A [(oX10 x0 y0 0 z0 p0 dr pa (nI (nt + 1)) s0 im ki tr v0 rf), (oX6 p0 p1 p2 p3 p4 (nI w)), (aP g pa 7 pf), (oX7 z0 y0 (nI n) (nI k2_14) fb_15 pb_16 z1), (aB g y0 500 tp), (aI g z1 3 nv_17), (oX5 t0 t1 t2 (nI w)), (aI g t1 6 ud_18), (aI g t2 36 ub_19)] := hD
            refine lv_aload_n hx hb dX10_contract_106 rfl (lv_at hl 2 rfl) ?_
            refine va_get (v := .int (nI (nt + 1))) (T := TX10) (N := 13) hx hb hts inX10 hown hK hP 0 rfl rfl 6 (by decide) f92 (fun _ h9 => h9) rfl dX10_contract_107 ?_
            refine lv_iconst (v := 1) hx hb dX10_contract_110 (by decide) ?_
            refine lv_isub hx hb dX10_contract_111 ?_
            refine he_top (nI nt) (nI_pred nt) ?_
            have hP := hP.sub (ws' := [(oX10 x0 y0 0 z0 p0 dr pa (nI (nt + 1)) s0 im ki tr v0 rf), (oX6 p0 p1 p2 p3 p4 (nI w)), (aP g pa 7 pf), (oX5 t0 t1 t2 (nI w)), (aI g t1 6 ud_18), (aI g t2 36 ub_19), (oX7 z0 y0 (nI n) (nI k2_14) fb_15 pb_16 z1), (aB g y0 500 tp), (aI g z1 3 nv_17)]) [0, 1, 2, 6, 7, 8, 3, 4, 5] rfl
            have hD := hD.sub (ws' := [(oX10 x0 y0 0 z0 p0 dr pa (nI (nt + 1)) s0 im ki tr v0 rf), (oX6 p0 p1 p2 p3 p4 (nI w)), (aP g pa 7 pf), (oX5 t0 t1 t2 (nI w)), (aI g t1 6 ud_18), (aI g t2 36 ub_19), (oX7 z0 y0 (nI n) (nI k2_14) fb_15 pb_16 z1), (aB g y0 500 tp), (aI g z1 3 nv_17)]) [0, 1, 2, 6, 7, 8, 3, 4, 5] (by decide) rfl
            exact he_ri hQ hx hb hr hlk hP hD hS dX10_contract_112 (Nat.le_of_ble_eq_true rfl) (Nat.le_of_ble_eq_true rfl) ((nt + 1, k2_14, fb_15, pb_16, nv_17, ud_18, ub_19, nI w)) (rfl) (⟨Or.inr ⟨rfl, Eq.trans (Eq.symm hf_20) c_25, rfl⟩, hf_21, hf_22, hf_23, hf_24⟩)
          · refine lv_iload_n hx hb dX10_contract_91 rfl (lv_at hl 0 rfl) ?_
            refine lv_bipush (v := 10) hx hb dX10_contract_92 (by decide) ?_
            refine lv_isub hx hb dX10_contract_94 ?_
            have hP := hP.sub (ws' := [(oX10 x0 y0 0 z0 p0 dr pa (nI nt) s0 im ki tr v0 rf), (oX6 p0 p1 p2 p3 p4 (nI w)), (aP g pa 7 pf), (oX5 t0 t1 t2 (nI w)), (aI g t1 6 ud_18), (aI g t2 36 ub_19), (oX7 z0 y0 (nI n) (nI k2_14) fb_15 pb_16 z1), (aB g y0 500 tp), (aI g z1 3 nv_17)]) [0, 1, 2, 6, 7, 8, 3, 4, 5] rfl
            have hD := hD.sub (ws' := [(oX10 x0 y0 0 z0 p0 dr pa (nI nt) s0 im ki tr v0 rf), (oX6 p0 p1 p2 p3 p4 (nI w)), (aP g pa 7 pf), (oX5 t0 t1 t2 (nI w)), (aI g t1 6 ud_18), (aI g t2 36 ub_19), (oX7 z0 y0 (nI n) (nI k2_14) fb_15 pb_16 z1), (aB g y0 500 tp), (aI g z1 3 nv_17)]) [0, 1, 2, 6, 7, 8, 3, 4, 5] (by decide) rfl
            exact he_ri hQ hx hb hr hlk hP hD hS dX10_contract_95 (Nat.le_of_ble_eq_true rfl) (Nat.le_of_ble_eq_true rfl) ((nt, k2_14, fb_15, pb_16, nv_17, ud_18, ub_19, nI w)) (rfl) (⟨Or.inl ⟨rfl, fun h9 => c_25 (Eq.trans hf_20 h9), by dsimp only; rw [hf_20]⟩, hf_21, hf_22, hf_23, hf_24⟩)
        · exact absurd ((he_clt (a := nt) (b := 6) rfl (by decide) (by omega) (by decide)).mpr hnt) c_7
end
section
/-! a month, precisely: as the reference counts it -/
/-- what a cork takes -/
def dmI (q i : Nat) : Int32 := if q ≤ 4 ∧ i % 2 = 0 then 2 else 1
/-- the wall that a cork is led to -/
def aimK (due : Int32) (F : Nat → Int32) (w : Nat) : Nat := if due = -1 then wkI F (w - 1) else due.toNatClampNeg
def hitF (F : Nat → Int32) (k : Nat) (d : Int32) : Nat → Int32 := upd (upd F 9 (F 9 + 1)) (12 + k) ((upd F 9 (F 9 + 1)) (12 + k) - d)
def rBr (T R3 : Nat → Int32) (pb : Int32) (F : Nat → Int32) (k : Nat) : Nat → Int32 := mvF (frF (upd (upd (upd F (12 + k) (R3 k)) (18 + k) ((upd F (12 + k) (R3 k)) (18 + k) + 1)) 6 ((upd (upd F (12 + k) (R3 k)) (18 + k) ((upd F (12 + k) (R3 k)) (18 + k) + 1)) 6 + 1)) (T 10)) 0 1 pb
abbrev ShS : Type := (Nat → Int32) × (Nat → Int32) × Int32
def rHit (T R3 : Nat → Int32) (pb due : Int32) (q w i : Nat) (X : ShS) : ShS :=
  if 0 < hitF X.1 (aimK due X.1 w) (dmI q i) (12 + aimK due X.1 w) then (hitF X.1 (aimK due X.1 w) (dmI q i), upd X.2.1 (aimK due X.1 w) (X.2.1 (aimK due X.1 w) + 1), X.2.2)
  else (rBr T R3 pb (hitF X.1 (aimK due X.1 w) (dmI q i)) (aimK due X.1 w), upd X.2.1 (aimK due X.1 w) (X.2.1 (aimK due X.1 w) + 1), 1)
def rSh (T R3 : Nat → Int32) (pb due : Int32) (q w : Nat) (f g : Nat → Int32) : Nat → ShS
  | 0 => (f, g, 0)
  | i + 1 => rHit T R3 pb due q w (i + 1) (rSh T R3 pb due q w f g i)
def nSh (w ck : Nat) : Nat := if w = 0 then 0 else ck
def rMiss (due fl : Int32) : Int32 := if due = -1 then 0 else if fl = 0 then 1 else 0
def rShF (T : Nat → Int32) (due : Int32) (q : Nat) (X : ShS) : Nat → Int32 := frF (upd X.1 7 (X.1 7 + rMiss due X.2.2)) (T (15 + q))
def payR (c0 c1 mm : Int32) : Int32 := if 9 < mm - mm / 12 * 12 then c1 else if mm - mm / 12 * 12 < 2 then c1 else c0
def rUnd (T R3 C : Nat → Int32) (due : Int32) (q ck w : Nat) (mm : Int32) (f g : Nat → Int32) : Nat → Int32 :=
  if f 0 < payR (C 0) (C 1) mm then sgF (upd f 8 (f 8 + 1)) (-1) else rShF T due q (rSh T R3 (C 4) due q w (mvF f 0 1 (payR (C 0) (C 1) mm)) g (nSh w ck))
def rUndG (T R3 C : Nat → Int32) (due : Int32) (q ck w : Nat) (mm : Int32) (f g : Nat → Int32) : Nat → Int32 :=
  if f 0 < payR (C 0) (C 1) mm then g else (rSh T R3 (C 4) due q w (mvF f 0 1 (payR (C 0) (C 1) mm)) g (nSh w ck)).2.1
def rMdA (R3 R4 f : Nat → Int32) (i : Nat) : Int32 := if R3 i - f (12 + i) < R4 i then R3 i - f (12 + i) else R4 i
def rMdB (T f : Nat → Int32) (a : Int32) : Int32 := if T 12 = 0 then a else if f 0 / T 12 < a then f 0 / T 12 else a
def rMdS (T R3 R4 f : Nat → Int32) (i : Nat) : Nat → Int32 := upd (mvF f 0 2 (T 12 * rMdB T f (rMdA R3 R4 f i))) (12 + i) ((mvF f 0 2 (T 12 * rMdB T f (rMdA R3 R4 f i))) (12 + i) + rMdB T f (rMdA R3 R4 f i))
def rMd (T R3 R4 f : Nat → Int32) : Nat → Nat → Int32
  | 0 => f
  | i + 1 => rMdS T R3 R4 (rMd T R3 R4 f i) i
theorem rMd_s (T R3 R4 f : Nat → Int32) (i : Nat) : rMd T R3 R4 f (i + 1) = rMdS T R3 R4 (rMd T R3 R4 f i) i := rfl
def rDes (T f : Nat → Int32) : Nat → Int32 :=
  if T 3 < T 6 then upd (upd f 3 (f 3 - f 3 * (T 6 - T 3) / 100)) 4 ((upd f 3 (f 3 - f 3 * (T 6 - T 3) / 100)) 4 + f 3 * (T 6 - T 3) / 100)
  else upd (upd f 4 (f 4 - f 4 * (T 3 - T 6) / 100)) 3 ((upd f 4 (f 4 - f 4 * (T 3 - T 6) / 100)) 3 + f 4 * (T 3 - T 6) / 100)
def rTax (T f : Nat → Int32) : Nat → Int32 := mvF f 2 0 (f 3 * T 8 * f 5 / 10000)
def rFe (T f : Nat → Int32) : Nat → Int32 := upd f 5 (if f 5 < T 11 then 0 else f 5 - T 11)
def rCk1 (T f : Nat → Int32) : Nat → Int32 := mvF f 0 2 (f 3 / 10 * T 3)
def rCk2 (T f : Nat → Int32) : Nat → Int32 := mvF f 1 2 (f 4 / 10 * T 6)
def rTail (T R3 R4 : Nat → Int32) (w : Nat) (f : Nat → Int32) : Nat → Int32 := rDes T (rCk2 T (rCk1 T (rMd T R3 R4 (rFe T f) w)))
def rEnd (q5 it mm : Nat) (f : Nat → Int32) : Nat → Int32 :=
  if f 10 = -1 then upd f 24 (nI (mm + 1)) else if it + 1 = q5 then sgF (upd (upd f 24 (nI (mm + 1))) 11 (nI (it + 1))) (-1) else upd (upd f 24 (nI (mm + 1))) 11 (nI (it + 1))
/-- a month, none in force; under a contract; the corks led in it -/
def rMonN (T R3 R4 : Nat → Int32) (w mm : Nat) (f : Nat → Int32) : Nat → Int32 := upd (rTail T R3 R4 w (rTax T f)) 24 (nI (mm + 1))
def rMonP (T R3 R4 C : Nat → Int32) (due : Int32) (q ck q5 it w mm : Nat) (f g : Nat → Int32) : Nat → Int32 := rEnd q5 it mm (rTail T R3 R4 w (rUnd T R3 C due q ck w (nI mm) (rTax T f) g))
def rMonG (T R3 C : Nat → Int32) (due : Int32) (q ck w mm : Nat) (f g : Nat → Int32) : Nat → Int32 := rUndG T R3 C due q ck w (nI mm) (rTax T f) g
/-! alike at the places that P names -/
def eqP (P : Nat → Prop) (f F : Nat → Int32) : Prop := ∀ i, P i → f i = F i
/-- all that a month reads, but the place 11 -/
def inP (P : Nat → Prop) : Prop := ∀ i, i < 24 → i ≠ 11 → P i
section CG
variable {P : Nat → Prop} {f F g G T T2 R3 S3 R4 S4 C C2 : Nat → Int32} {v V d D : Int32} {k q w i : Nat}
theorem cg_r : eqP P f f := fun _ _ => rfl
theorem cg_u (h : eqP P f F) (k : Nat) (e : v = V) : eqP P (upd f k v) (upd F k V) := by
  intro i hi
  unfold upd
  split
  · exact e
  · exact h i hi
theorem cg_a (hP : inP P) (h : eqP P f F) {i : Nat} (hi : i < 24) (h1 : i ≠ 11) : f i = F i := h i (hP i hi h1)
theorem cg_mv (hP : inP P) (h : eqP P f F) {i j : Nat} (hi : i < 10) (hj : j < 10) (e : d = D) : eqP P (mvF f i j d) (mvF F i j D) := by
  subst e
  have e1 : f i = F i := cg_a hP h (by omega) (by omega)
  unfold mvF
  rw [e1]
  have h1 := cg_u h i (rfl : F i - (if F i < d then F i else d) = _)
  refine cg_u h1 j ?_
  rw [cg_a hP h1 (i := j) (by omega) (by omega)]
theorem cg_fr (hP : inP P) (h : eqP P f F) (e : d = D) : eqP P (frF f d) (frF F D) := by
  subst e
  unfold frF
  rw [cg_a hP h (i := 5) (by decide) (by decide)]
  exact cg_u h 5 rfl
theorem cg_wk (hP : inP P) (h : eqP P f F) : ∀ i, i < 6 → wkI f i = wkI F i
  | 0, _ => rfl
  | i + 1, hi => by
    have ih := cg_wk hP h i (by omega)
    have := wkI_le F i
    rw [wkI, wkI, ih, cg_a hP h (i := 12 + wkI F i) (by omega) (by omega), cg_a hP h (i := 12 + (i + 1)) (by omega) (by omega)]
theorem cg_aim (hP : inP P) (h : eqP P f F) (hw : w ≤ 6) : aimK v f w = aimK v F w := by
  unfold aimK
  rw [cg_wk hP h (w - 1) (by omega)]
theorem aim_lt {due : Int32} (hw : 0 < w) (hd : due = -1 ∨ ∃ k, k < w ∧ due = nI k) (hw6 : w ≤ 6) : aimK due f w < w := by
  unfold aimK
  split
  · have := wkI_le f (w - 1)
    omega
  · rename_i h
    obtain ⟨k, hk, e⟩ := hd.resolve_left h
    rw [e, nI_clamp (by omega)]
    exact hk
theorem cg_hit (hP : inP P) (h : eqP P f F) (hk : k < 6) : eqP P (hitF f k d) (hitF F k d) := by
  unfold hitF
  have h1 := cg_u h 9 (show f 9 + 1 = F 9 + 1 by rw [cg_a hP h (i := 9) (by decide) (by decide)])
  refine cg_u h1 (12 + k) ?_
  rw [cg_a hP h1 (i := 12 + k) (by omega) (by omega)]
theorem cg_br (hP : inP P) (h : eqP P f F) (hk : k < 6) (eT : T 10 = T2 10) (e3 : R3 k = S3 k) : eqP P (rBr T R3 d f k) (rBr T2 S3 d F k) := by
  unfold rBr
  rw [e3, eT]
  have h1 := cg_u h (12 + k) (rfl : S3 k = S3 k)
  have h2 := cg_u h1 (18 + k) (show (upd f (12 + k) (S3 k)) (18 + k) + 1 = (upd F (12 + k) (S3 k)) (18 + k) + 1 by rw [cg_a hP h1 (i := 18 + k) (by omega) (by omega)])
  have h3 := cg_u h2 6 (congrArg (fun z => z + 1) (cg_a hP h2 (i := 6) (by decide) (by decide)))
  exact cg_mv hP (cg_fr hP h3 rfl) (by decide) (by decide) rfl
/-- alike: a state of the shooting -/
def eqS (P : Nat → Prop) (X Y : ShS) : Prop := eqP P X.1 Y.1 ∧ (∀ j, j < 6 → X.2.1 j = Y.2.1 j) ∧ X.2.2 = Y.2.2
theorem cg_g {a : Nat} {g G : Nat → Int32} (h : ∀ j, j < 6 → g j = G j) (ha : a < 6) : ∀ j, j < 6 → upd g a (g a + 1) j = upd G a (G a + 1) j := by
  intro j hj
  unfold upd
  split
  · rw [h a ha]
  · exact h j hj
theorem cg_rHit {X Y : ShS} {due pb : Int32} (hP : inP P) (hw : 0 < w) (hd : due = -1 ∨ ∃ k, k < w ∧ due = nI k) (hw6 : w ≤ 6) (eT : T 10 = T2 10) (e3 : ∀ k, k < w → R3 k = S3 k) (h : eqS P X Y) : eqS P (rHit T R3 pb due q w i X) (rHit T2 S3 pb due q w i Y) := by
  obtain ⟨h1, h2, h3⟩ := h
  have ea : aimK due X.1 w = aimK due Y.1 w := cg_aim hP h1 hw6
  have hl : aimK due Y.1 w < w := aim_lt hw hd hw6
  have hh := cg_hit (d := dmI q i) hP h1 (k := aimK due Y.1 w) (by omega)
  unfold rHit
  rw [ea, cg_a hP hh (i := 12 + aimK due Y.1 w) (by omega) (by omega)]
  split
  · exact ⟨hh, cg_g h2 (by omega), h3⟩
  · exact ⟨cg_br hP hh (by omega) eT (e3 _ hl), cg_g h2 (by omega), rfl⟩
theorem cg_rSh {due pb : Int32} (hP : inP P) (hw : 0 < w) (hd : due = -1 ∨ ∃ k, k < w ∧ due = nI k) (hw6 : w ≤ 6) (eT : T 10 = T2 10) (e3 : ∀ k, k < w → R3 k = S3 k) (h : eqP P f F) (hg : ∀ j, j < 6 → g j = G j) : ∀ n, eqS P (rSh T R3 pb due q w f g n) (rSh T2 S3 pb due q w F G n)
  | 0 => ⟨h, hg, rfl⟩
  | n + 1 => cg_rHit hP hw hd hw6 eT e3 (cg_rSh hP hw hd hw6 eT e3 h hg n)
theorem cg_rShN {due pb : Int32} {ck : Nat} (hP : inP P) (hd : due = -1 ∨ ∃ k, k < w ∧ due = nI k) (hw6 : w ≤ 6) (eT : T 10 = T2 10) (e3 : ∀ k, k < w → R3 k = S3 k) (h : eqP P f F) (hg : ∀ j, j < 6 → g j = G j) : eqS P (rSh T R3 pb due q w f g (nSh w ck)) (rSh T2 S3 pb due q w F G (nSh w ck)) := by
  unfold nSh
  split
  · exact ⟨h, hg, rfl⟩
  · exact cg_rSh hP (by omega) hd hw6 eT e3 h hg ck
theorem cg_rShF {X Y : ShS} {due : Int32} (hP : inP P) (e : T (15 + q) = T2 (15 + q)) (h : eqS P X Y) : eqP P (rShF T due q X) (rShF T2 due q Y) := by
  unfold rShF
  rw [h.2.2, e]
  exact cg_fr hP (cg_u h.1 7 (by rw [cg_a hP h.1 (i := 7) (by decide) (by decide)])) rfl
theorem cg_sg (h : eqP P f F) : eqP P (sgF f v) (sgF F v) := cg_u (cg_u h 10 rfl) 11 rfl
theorem cg_und {due : Int32} {ck : Nat} {mm : Int32} (hP : inP P) (hd : due = -1 ∨ ∃ k, k < w ∧ due = nI k) (hw6 : w ≤ 6) (hq : q ≤ 9) (eT : ∀ i, 0 < i → i < 25 → T i = T2 i) (e3 : ∀ k, k < w → R3 k = S3 k) (e0 : C 0 = C2 0) (e1 : C 1 = C2 1) (e4 : C 4 = C2 4) (h : eqP P f F) (hg : ∀ j, j < 6 → g j = G j) : eqP P (rUnd T R3 C due q ck w mm f g) (rUnd T2 S3 C2 due q ck w mm F G) ∧ ∀ j, j < 6 → rUndG T R3 C due q ck w mm f g j = rUndG T2 S3 C2 due q ck w mm F G j := by
  unfold rUnd rUndG
  rw [e0, e1, e4, cg_a hP h (i := 0) (by decide) (by decide)]
  split
  · exact ⟨cg_sg (cg_u h 8 (by rw [cg_a hP h (i := 8) (by decide) (by decide)])), hg⟩
  · have h2 := cg_rShN (q := q) (pb := C2 4) (ck := ck) hP hd hw6 (eT 10 (by decide) (by decide)) e3 (cg_mv hP h (i := 0) (j := 1) (by decide) (by decide) (rfl : payR (C2 0) (C2 1) mm = _)) hg
    exact ⟨cg_rShF hP (eT _ (by omega) (by omega)) h2, h2.2.1⟩
theorem cg_md (hP : inP P) (eT : T 12 = T2 12) (e3 : ∀ k, k < w → R3 k = S3 k) (e4 : ∀ k, k < w → R4 k = S4 k) (hw6 : w ≤ 6) (h : eqP P f F) : ∀ i, i ≤ w → eqP P (rMd T R3 R4 f i) (rMd T2 S3 S4 F i)
  | 0, _ => h
  | i + 1, hi => by
    have ih := cg_md hP eT e3 e4 hw6 h i (by omega)
    have ea : rMdA R3 R4 (rMd T R3 R4 f i) i = rMdA S3 S4 (rMd T2 S3 S4 F i) i := by unfold rMdA; rw [e3 i (by omega), e4 i (by omega), cg_a hP ih (i := 12 + i) (by omega) (by omega)]
    have eb : rMdB T (rMd T R3 R4 f i) (rMdA S3 S4 (rMd T2 S3 S4 F i) i) = rMdB T2 (rMd T2 S3 S4 F i) (rMdA S3 S4 (rMd T2 S3 S4 F i) i) := by unfold rMdB; rw [eT, cg_a hP ih (i := 0) (by decide) (by decide)]
    rw [rMd_s, rMd_s, rMdS, rMdS, ea, eb, eT]
    have h1 := cg_mv hP ih (i := 0) (j := 2) (by decide) (by decide) (rfl : T2 12 * rMdB T2 (rMd T2 S3 S4 F i) (rMdA S3 S4 (rMd T2 S3 S4 F i) i) = _)
    exact cg_u h1 (12 + i) (by rw [cg_a hP h1 (i := 12 + i) (by omega) (by omega)])
theorem cg_des (hP : inP P) (e3 : T 3 = T2 3) (e6 : T 6 = T2 6) (h : eqP P f F) : eqP P (rDes T f) (rDes T2 F) := by
  unfold rDes
  rw [e3, e6, cg_a hP h (i := 3) (by decide) (by decide), cg_a hP h (i := 4) (by decide) (by decide)]
  split
  · have h1 := cg_u h 3 (rfl : F 3 - F 3 * (T2 6 - T2 3) / 100 = _)
    exact cg_u h1 4 (by rw [cg_a hP h1 (i := 4) (by decide) (by decide)])
  · have h1 := cg_u h 4 (rfl : F 4 - F 4 * (T2 3 - T2 6) / 100 = _)
    exact cg_u h1 3 (by rw [cg_a hP h1 (i := 3) (by decide) (by decide)])
theorem cg_tax (hP : inP P) (e8 : T 8 = T2 8) (h : eqP P f F) : eqP P (rTax T f) (rTax T2 F) := by
  unfold rTax
  rw [e8, cg_a hP h (i := 3) (by decide) (by decide), cg_a hP h (i := 5) (by decide) (by decide)]
  exact cg_mv hP h (by decide) (by decide) rfl
theorem cg_tail (hP : inP P) (eT : ∀ i, 0 < i → i < 25 → T i = T2 i) (e3 : ∀ k, k < w → R3 k = S3 k) (e4 : ∀ k, k < w → R4 k = S4 k) (hw6 : w ≤ 6) (h : eqP P f F) : eqP P (rTail T R3 R4 w f) (rTail T2 S3 S4 w F) := by
  have h1 : eqP P (rFe T f) (rFe T2 F) := by
    unfold rFe
    rw [eT 11 (by decide) (by decide), cg_a hP h (i := 5) (by decide) (by decide)]
    exact cg_u h 5 rfl
  have h2 := cg_md hP (eT 12 (by decide) (by decide)) e3 e4 hw6 h1 w (Nat.le_refl w)
  have h3 : eqP P (rCk1 T (rMd T R3 R4 (rFe T f) w)) (rCk1 T2 (rMd T2 S3 S4 (rFe T2 F) w)) := by
    unfold rCk1
    rw [eT 3 (by decide) (by decide), cg_a hP h2 (i := 3) (by decide) (by decide)]
    exact cg_mv hP h2 (by decide) (by decide) rfl
  have h4 : eqP P (rCk2 T (rCk1 T (rMd T R3 R4 (rFe T f) w))) (rCk2 T2 (rCk1 T2 (rMd T2 S3 S4 (rFe T2 F) w))) := by
    unfold rCk2
    rw [eT 6 (by decide) (by decide), cg_a hP h3 (i := 4) (by decide) (by decide)]
    exact cg_mv hP h3 (by decide) (by decide) rfl
  exact cg_des hP (eT 3 (by decide) (by decide)) (eT 6 (by decide) (by decide)) h4
theorem cg_end {q5 it mm : Nat} (hP : inP P) (h : eqP P f F) : eqP P (rEnd q5 it mm f) (rEnd q5 it mm F) := by
  unfold rEnd
  rw [cg_a hP h (i := 10) (by decide) (by decide)]
  split
  · exact cg_u h 24 rfl
  · split
    · exact cg_sg (cg_u (cg_u h 24 rfl) 11 rfl)
    · exact cg_u (cg_u h 24 rfl) 11 rfl
theorem cg_monN {mm : Nat} (hP : inP P) (eT : ∀ i, 0 < i → i < 25 → T i = T2 i) (e3 : ∀ k, k < w → R3 k = S3 k) (e4 : ∀ k, k < w → R4 k = S4 k) (hw6 : w ≤ 6) (h : eqP P f F) : eqP P (rMonN T R3 R4 w mm f) (rMonN T2 S3 S4 w mm F) := cg_u (cg_tail hP eT e3 e4 hw6 (cg_tax hP (eT 8 (by decide) (by decide)) h)) 24 rfl
theorem cg_monP {due : Int32} {ck q5 it mm : Nat} (hP : inP P) (hd : due = -1 ∨ ∃ k, k < w ∧ due = nI k) (hw6 : w ≤ 6) (hq : q ≤ 9) (eT : ∀ i, 0 < i → i < 25 → T i = T2 i) (e3 : ∀ k, k < w → R3 k = S3 k) (e4 : ∀ k, k < w → R4 k = S4 k) (e0 : C 0 = C2 0) (e1 : C 1 = C2 1) (eb : C 4 = C2 4) (h : eqP P f F) (hg : ∀ j, j < 6 → g j = G j) : eqP P (rMonP T R3 R4 C due q ck q5 it w mm f g) (rMonP T2 S3 S4 C2 due q ck q5 it w mm F G) ∧ ∀ j, j < 6 → rMonG T R3 C due q ck w mm f g j = rMonG T2 S3 C2 due q ck w mm F G j := by
  have h1 := cg_und (ck := ck) (mm := nI mm) hP hd hw6 hq eT e3 e0 e1 eb (cg_tax hP (eT 8 (by decide) (by decide)) h) hg
  exact ⟨cg_end hP (cg_tail hP eT e3 e4 hw6 h1.1), h1.2⟩
end CG
end
section
/-! the weakest wall -/
theorem i32_le {x y : Int32} : x ≤ y ↔ x.toInt ≤ y.toInt := Int32.le_iff_toInt_le
theorem i32_lt {x y : Int32} : x < y ↔ x.toInt < y.toInt := Int32.lt_iff_toInt_lt
theorem wk_spec (f : Nat → Int32) : ∀ i, wkI f i ≤ i ∧ (∀ j, j < wkI f i → f (12 + wkI f i) < f (12 + j)) ∧ ∀ j, j ≤ i → f (12 + wkI f i) ≤ f (12 + j)
  | 0 => ⟨Nat.le_refl 0, fun j hj => absurd hj (Nat.not_lt_zero j), fun j hj => by
      rw [show j = 0 by omega]
      exact Int32.le_refl _⟩
  | i + 1 => by
    obtain ⟨h1, h2, h3⟩ := wk_spec f i
    rw [wkI]
    split
    · rename_i hc
      refine ⟨by omega, h2, fun j hj => ?_⟩
      rcases Nat.lt_or_ge i j with q | q
      · rw [show j = i + 1 by omega]
        exact hc
      · exact h3 j q
    · rename_i hc
      have hc := Int32.not_le.mp hc
      refine ⟨Nat.le_refl _, fun j hj => ?_, fun j hj => ?_⟩
      · have := h3 j (by omega)
        rw [i32_lt] at hc ⊢
        rw [i32_le] at this
        omega
      · rcases Nat.lt_or_ge i j with q | q
        · rw [show j = i + 1 by omega]
          exact Int32.le_refl _
        · have := h3 j q
          rw [i32_lt] at hc
          rw [i32_le] at this ⊢
          omega
theorem wk_uniq {f : Nat → Int32} {i k : Nat} (h1 : k ≤ i) (h2 : ∀ j, j < k → f (12 + k) < f (12 + j)) (h3 : ∀ j, j ≤ i → f (12 + k) ≤ f (12 + j)) : wkI f i = k := by
  obtain ⟨g1, g2, g3⟩ := wk_spec f i
  rcases Nat.lt_trichotomy (wkI f i) k with q | q | q
  · have a := h2 _ q
    have b := g3 k h1
    rw [i32_lt] at a
    rw [i32_le] at b
    omega
  · exact q
  · have a := g2 _ q
    have b := h3 _ g1
    rw [i32_lt] at a
    rw [i32_le] at b
    omega
theorem dm_12 (q i : Nat) : (dmI q i).toInt = 1 ∨ (dmI q i).toInt = 2 := by
  unfold dmI
  split
  · right; decide
  · left; decide
theorem i32_sub {x d : Int32} (hx : 0 < x) (hd : d.toInt = 1 ∨ d.toInt = 2) : (x - d).toInt = x.toInt - d.toInt := by
  rw [i32_lt] at hx
  have h0 : (0 : Int32).toInt = 0 := by decide
  have h1 := x.toInt_lt
  have h2 := x.le_toInt
  rw [Int32.toInt_sub]
  apply Int.bmod_eq_of_le <;> omega
theorem hit_at (F : Nat → Int32) (k : Nat) (d : Int32) : hitF F k d (12 + k) = F (12 + k) - d := by
  unfold hitF
  rw [upd_s, upd_n (by omega)]
theorem hit_ne {F : Nat → Int32} {k j : Nat} {d : Int32} (h9 : j ≠ 9) (h : j ≠ 12 + k) : hitF F k d j = F j := by
  unfold hitF
  rw [upd_n h, upd_n h9]
/-- a wall that was the weakest stays so till it falls -/
theorem aim_stick {F : Nat → Int32} {due : Int32} {w q i : Nat} (hw : 0 < w) (hB : 0 < F (12 + aimK due F w)) : aimK due (hitF F (aimK due F w) (dmI q i)) w = aimK due F w := by
  by_cases hd : due = -1
  · have ha : ∀ G, aimK due G w = wkI G (w - 1) := fun G => if_pos hd
    rw [ha, ha F]
    rw [ha F] at hB
    obtain ⟨g1, g2, g3⟩ := wk_spec F (w - 1)
    have hs := i32_sub hB (dm_12 q i)
    have hd12 := dm_12 q i
    refine wk_uniq g1 (fun j hj => ?_) (fun j hj => ?_)
    · rw [hit_at, hit_ne (by omega) (by omega)]
      have := g2 j hj
      rw [i32_lt] at this ⊢
      omega
    · by_cases e : j = wkI F (w - 1)
      · rw [e]; exact Int32.le_refl _
      · rw [hit_at, hit_ne (by omega) (by omega)]
        have := g3 j hj
        rw [i32_le] at this ⊢
        omega
  · unfold aimK
    rw [if_neg hd, if_neg hd]
/-! rows laid in another order -/
theorem upd_c {f : Nat → Int32} {a b : Nat} {x y : Int32} (h : a ≠ b) : upd (upd f a x) b y = upd (upd f b y) a x := by
  funext j
  unfold upd
  by_cases e : j = b
  · rw [if_pos e, if_neg (by omega), if_pos e]
  · rw [if_neg e, if_neg e]
/-- a breach, as the class counts it -/
theorem br_eq (sd st : Nat → Int32) (T : Nat → Int32) (pb : Int32) (F : Nat → Int32) (k : Nat) (hk : k < 6) (hT : T 10 = sd 13) : mvF (frF (upd (upd (upd F 6 (F 6 + 1)) (18 + k) (upd F 6 (F 6 + 1) (18 + k) + 1)) (12 + k) (st k)) (sd 13)) 0 1 pb = rBr T st pb F k := by
  unfold rBr
  rw [hT]
  congr 2
  rw [upd_n (show 18 + k ≠ 6 by omega), upd_n (show 18 + k ≠ 12 + k by omega), upd_n (show 6 ≠ 18 + k by omega), upd_n (show 6 ≠ 12 + k by omega)]
  rw [upd_c (show 18 + k ≠ 12 + k by omega), upd_c (show 6 ≠ 12 + k by omega), upd_c (show 6 ≠ 18 + k by omega)]
theorem sgFx {f : Nat → Int32} {i : Nat} (h : i ≠ 11) : sgF f (-1) i = upd f 10 (-1) i := by
  unfold sgF
  rw [upd_n h]
/-- the class's numbers of a siege in the reference's order; a contract's -/
def tOf (sd fn : Nat → Int32) : Nat → Int32 := fun i => if 15 ≤ i then fn (i - 15) else [0, sd 3, sd 4, sd 5, sd 6, sd 7, sd 8, sd 9, sd 10, sd 12, sd 13, sd 14, sd 18, sd 21, sd 22].getD i 0
def cOf (pd : Nat → Int32) : Nat → Int32 := fun i => if i = 1 then wpF pd else pd i
theorem tOf_15 (sd fn : Nat → Int32) (r : Nat) : tOf sd fn (15 + r) = fn r := by
  unfold tOf
  rw [if_pos (by omega), show 15 + r - 15 = r by omega]
/-- the bounds of what a siege's text says -/
def bdT (T : Nat → Int32) : Prop := (∃ a, a ≤ 9 ∧ T 3 = nI a) ∧ (∃ a, a ≤ 9 ∧ T 6 = nI a) ∧ (∃ a, a ≤ 100 ∧ T 8 = nI a) ∧ (∃ a, a ≤ 50 ∧ T 10 = nI a) ∧ (∃ a, a ≤ 50 ∧ T 11 = nI a) ∧ (∃ a, a ≤ 9 ∧ T 12 = nI a) ∧ ∀ r, r < 10 → ∃ a, a ≤ 20 ∧ T (15 + r) = nI a
/-- the bounds of how things stand -/
def bdF (w : Nat) (R3 f : Nat → Int32) : Prop := (∃ a b c, f 0 = nI a ∧ f 1 = nI b ∧ f 2 = nI c ∧ a + b + c ≤ 60000) ∧ (∃ m n, f 3 = nI m ∧ f 4 = nI n ∧ m + n ≤ 3000) ∧ (∃ x, x ≤ 100 ∧ f 5 = nI x) ∧ ∀ k, k < w → ∃ v s, 1 ≤ v ∧ v ≤ s ∧ s ≤ 99 ∧ f (12 + k) = nI v ∧ R3 k = nI s
theorem pay_eq (a b mm : Int32) : (if 10 ≤ mm - mm / 12 * 12 then b else if 1 < mm - mm / 12 * 12 then a else b) = payR a b mm := by
  unfold payR
  have h10 : (10 : Int32).toInt = 10 := by decide
  have h9 : (9 : Int32).toInt = 9 := by decide
  have h2 : (2 : Int32).toInt = 2 := by decide
  have h1 : (1 : Int32).toInt = 1 := by decide
  by_cases c1 : 10 ≤ mm - mm / 12 * 12
  · rw [if_pos c1, if_pos (show 9 < mm - mm / 12 * 12 by rw [i32_le] at c1; rw [i32_lt]; omega)]
  · rw [if_neg c1, if_neg (show ¬ 9 < mm - mm / 12 * 12 by rw [i32_le] at c1; rw [i32_lt]; omega)]
    by_cases c2 : 1 < mm - mm / 12 * 12
    · rw [if_pos c2, if_neg (show ¬ mm - mm / 12 * 12 < 2 by rw [i32_lt] at c2 ⊢; omega)]
    · rw [if_neg c2, if_pos (show mm - mm / 12 * 12 < 2 by rw [i32_lt] at c2 ⊢; omega)]
theorem payF_eq (pd : Nat → Int32) (mm : Int32) : payF pd mm = payR (cOf pd 0) (cOf pd 1) mm := pay_eq (pd 0) (wpF pd) mm
/-- fear grows less -/
theorem fe_eq {sd fn f : Nat → Int32} (hT : bdT (tOf sd fn)) (h5 : ∃ x, x ≤ 100 ∧ f 5 = nI x) : psA sd f = rFe (tOf sd fn) f := by
  obtain ⟨-, -, -, -, ⟨a, ha, e⟩, -⟩ := hT
  obtain ⟨x, hx, e5⟩ := h5
  have e : sd 14 = nI a := e
  unfold psA rFe
  rw [show tOf sd fn 11 = sd 14 from rfl, e, e5]
  congr 1
  exact (by decide +kernel : ∀ a, a < 51 → ∀ x, x < 101 → (if 0 < nI x - nI a then nI x - nI a else 0) = if nI x < nI a then 0 else nI x - nI a) a (by omega) x (by omega)
theorem mv_c {f : Nat → Int32} {k : Nat} {v d : Int32} (hk : 12 ≤ k) : mvF (upd f k v) 0 2 d = upd (mvF f 0 2 d) k v := by
  unfold mvF
  rw [upd_n (show 0 ≠ k by omega), upd_c (show k ≠ 0 by omega), upd_n (show 2 ≠ k by omega), upd_c (show k ≠ 2 by omega)]
theorem md_eq {sd fn st me f : Nat → Int32} (hT : bdT (tOf sd fn)) : ∀ i, mendF sd st me f i = rMd (tOf sd fn) st me f i
  | 0 => rfl
  | i + 1 => by
    have hp : (sd 18 ≤ 0) ↔ (tOf sd fn 12 = 0) := by
      obtain ⟨-, -, -, -, -, ⟨a, ha, e⟩, -⟩ := hT
      rw [e, show sd 18 = nI a from e]
      exact (by decide : ∀ a, a < 10 → (nI a ≤ 0 ↔ nI a = 0)) a (by omega)
    rw [mendF_s, rMd_s, md_eq hT i, mendS, rMdS, mv_c (by omega)]
    have eb : mdB sd (rMd (tOf sd fn) st me f i) (mdA st me (rMd (tOf sd fn) st me f i) i) = rMdB (tOf sd fn) (rMd (tOf sd fn) st me f i) (rMdA st me (rMd (tOf sd fn) st me f i) i) := by
      unfold mdB rMdB
      by_cases c : sd 18 ≤ 0
      · rw [if_pos c, if_pos (hp.mp c)]; rfl
      · rw [if_neg c, if_neg (fun h => c (hp.mpr h))]; rfl
    rw [eb, Int32.mul_comm, show tOf sd fn 12 = sd 18 from rfl, mvF_n _ _ _ _ _ (show 12 + i ≠ 0 by omega) (show 12 + i ≠ 2 by omega)]
theorem ds_eq {sd fn f : Nat → Int32} (hT : bdT (tOf sd fn)) : psD sd f = rDes (tOf sd fn) f := by
  obtain ⟨⟨a, ha, e3⟩, ⟨b, hb, e6⟩, -⟩ := hT
  have e5 : sd 5 = nI a := e3
  have e8 : sd 8 = nI b := e6
  unfold psD dsF rDes mnF
  rw [e3, e6, e5, e8]
  have k1 := (by decide +kernel : ∀ a, a < 10 → ∀ b, b < 10 → ((nI b - nI a ≤ 0 ↔ ¬ nI a < nI b) ∧ (nI b - nI a ≤ 0 → (if 0 ≤ nI b - nI a then nI b - nI a else 0 - (nI b - nI a)) = nI a - nI b) ∧ (¬ nI b - nI a ≤ 0 → (if 0 ≤ nI b - nI a then nI b - nI a else 0 - (nI b - nI a)) = nI b - nI a))) a (by omega) b (by omega)
  by_cases c : nI b - nI a ≤ 0
  · rw [if_pos c, if_neg (k1.1.mp c), k1.2.1 c]
  · rw [if_neg c, if_pos (Decidable.not_not.mp (fun h => c (k1.1.mpr h))), k1.2.2 c]
theorem tail_eq {sd fn st me f : Nat → Int32} {w : Nat} (hT : bdT (tOf sd fn)) (h5 : ∃ x, x ≤ 100 ∧ f 5 = nI x) : psT sd st me w f = rTail (tOf sd fn) st me w f := by
  unfold psT rTail
  rw [fe_eq hT h5, md_eq hT, ds_eq hT]
  have e1 : ∀ F, psB sd F = rCk1 (tOf sd fn) F := fun F => by unfold psB rCk1; rw [Int32.mul_comm]; rfl
  have e2 : ∀ F, psC sd F = rCk2 (tOf sd fn) F := fun F => by unfold psC rCk2; rw [Int32.mul_comm]; rfl
  rw [e1, e2]
/-! bounds are kept -/
section BD
variable {T R3 R4 C f g : Nat → Int32} {w k q i : Nat} {d pb due : Int32}
theorem mn_I {a x : Nat} (ha : a < 2147483648) (hx : x < 2147483648) : (if nI a < nI x then nI a else nI x) = nI (min a x) := by
  by_cases h : a < x
  · rw [if_pos ((nI_ltI ha hx).mpr h), show min a x = a by omega]
  · rw [if_neg (fun h9 => h ((nI_ltI ha hx).mp h9)), show min a x = x by omega]
theorem bd_mv {i j : Nat} (hi : i < 3) (hj : j < 3) (hij : i ≠ j) (hd : ∃ x, x < 2147483648 ∧ d = nI x) (h : bdF w R3 f) : bdF w R3 (mvF f i j d) := by
  obtain ⟨⟨a, b, c, e0, e1, e2, hs⟩, h3, h5, hL⟩ := h
  obtain ⟨x, hx, rfl⟩ := hd
  have hn : ∀ z, 3 ≤ z → mvF f i j (nI x) z = f z := fun z hz => mvF_n _ _ _ _ _ (by omega) (by omega)
  refine ⟨?_, by rw [hn 3 (by omega), hn 4 (by omega)]; exact h3, by rw [hn 5 (by omega)]; exact h5, fun k hk => by rw [hn (12 + k) (by omega)]; exact hL k hk⟩
  have ht : ∀ z, z < 3 → ∃ v, v ≤ 60000 ∧ f z = nI v ∧ v = [a, b, c].getD z 0 := by
    intro z hz
    rcases (show z = 0 ∨ z = 1 ∨ z = 2 by omega) with rfl | rfl | rfl
    · exact ⟨a, by omega, e0, rfl⟩
    · exact ⟨b, by omega, e1, rfl⟩
    · exact ⟨c, by omega, e2, rfl⟩
  obtain ⟨u, hu, eu, du⟩ := ht i hi
  obtain ⟨v, hv, ev, dv⟩ := ht j hj
  have key : ∀ z, mvF f i j (nI x) z = if z = j then nI (v + min u x) else if z = i then nI (u - min u x) else f z := by
    intro z
    unfold mvF
    rw [eu, mn_I (by omega) hx]
    by_cases c1 : z = j
    · rw [c1, upd_s, if_pos rfl, upd_n (fun h => hij h.symm), ev, nI_add]
    · rw [upd_n c1, if_neg c1]
      by_cases c2 : z = i
      · rw [c2, upd_s, if_pos rfl, pk_sub (by omega)]
      · rw [upd_n c2, if_neg c2]
  rcases (show (i = 0 ∧ j = 1) ∨ (i = 0 ∧ j = 2) ∨ (i = 1 ∧ j = 0) ∨ (i = 1 ∧ j = 2) ∨ (i = 2 ∧ j = 0) ∨ (i = 2 ∧ j = 1) by omega) with ⟨rfl, rfl⟩ | ⟨rfl, rfl⟩ | ⟨rfl, rfl⟩ | ⟨rfl, rfl⟩ | ⟨rfl, rfl⟩ | ⟨rfl, rfl⟩
  · have du : u = a := du
    have dv : v = b := dv
    exact ⟨u - min u x, v + min u x, c, key 0, key 1, (key 2).trans e2, by omega⟩
  · have du : u = a := du
    have dv : v = c := dv
    exact ⟨u - min u x, b, v + min u x, key 0, (key 1).trans e1, key 2, by omega⟩
  · have du : u = b := du
    have dv : v = a := dv
    exact ⟨v + min u x, u - min u x, c, key 0, key 1, (key 2).trans e2, by omega⟩
  · have du : u = b := du
    have dv : v = c := dv
    exact ⟨a, u - min u x, v + min u x, (key 0).trans e0, key 1, key 2, by omega⟩
  · have du : u = c := du
    have dv : v = a := dv
    exact ⟨v + min u x, b, u - min u x, key 0, (key 1).trans e1, key 2, by omega⟩
  · have du : u = c := du
    have dv : v = b := dv
    exact ⟨a, v + min u x, u - min u x, (key 0).trans e0, key 1, key 2, by omega⟩
theorem bd_o (h : bdF w R3 f) (i : Nat) (v : Int32) (h1 : 6 ≤ i) (h2 : i < 12 ∨ 12 + w ≤ i) : bdF w R3 (upd f i v) := by
  have hn : ∀ z, z < 6 → upd f i v z = f z := fun z hz => upd_n (by omega)
  unfold bdF
  rw [hn 0 (by decide), hn 1 (by decide), hn 2 (by decide), hn 3 (by decide), hn 4 (by decide), hn 5 (by decide)]
  exact ⟨h.1, h.2.1, h.2.2.1, fun k hk => by rw [upd_n (by omega)]; exact h.2.2.2 k hk⟩
theorem bd_5 (h : bdF w R3 f) {v : Int32} (hv : ∃ x, x ≤ 100 ∧ v = nI x) : bdF w R3 (upd f 5 v) := by
  unfold bdF
  rw [upd_n (show 0 ≠ 5 by decide), upd_n (show 1 ≠ 5 by decide), upd_n (show 2 ≠ 5 by decide), upd_n (show 3 ≠ 5 by decide), upd_n (show 4 ≠ 5 by decide), upd_s]
  exact ⟨h.1, h.2.1, hv, fun k hk => by rw [upd_n (by omega)]; exact h.2.2.2 k hk⟩
theorem bd_fr (h : bdF w R3 f) (hd : ∃ x, x ≤ 100 ∧ d = nI x) : bdF w R3 (frF f d) := by
  unfold frF
  refine bd_5 h ?_
  obtain ⟨x, hx, e⟩ := h.2.2.1
  obtain ⟨y, hy, rfl⟩ := hd
  rw [e, nI_add]
  by_cases c : nI (x + y) < 100
  · rw [if_pos c]
    have := (nI_ltI (a := x + y) (b := 100) (by omega) (by decide)).mp c
    exact ⟨x + y, by omega, rfl⟩
  · rw [if_neg c]
    exact ⟨100, by decide, rfl⟩
theorem bd_L (h : bdF w R3 f) {k : Nat} {u : Int32} (hu : ∃ v s, 1 ≤ v ∧ v ≤ s ∧ s ≤ 99 ∧ u = nI v ∧ R3 k = nI s) : bdF w R3 (upd f (12 + k) u) := by
  unfold bdF
  rw [upd_n (show 0 ≠ 12 + k by omega), upd_n (show 1 ≠ 12 + k by omega), upd_n (show 2 ≠ 12 + k by omega), upd_n (show 3 ≠ 12 + k by omega), upd_n (show 4 ≠ 12 + k by omega), upd_n (show 5 ≠ 12 + k by omega)]
  refine ⟨h.1, h.2.1, h.2.2.1, fun j hj => ?_⟩
  by_cases e : j = k
  · rw [e, upd_s]; exact hu
  · rw [upd_n (by omega)]; exact h.2.2.2 j hj
theorem dm_n (q i : Nat) : ∃ d, (d = 1 ∨ d = 2) ∧ dmI q i = nI d := by
  unfold dmI
  split
  · exact ⟨2, Or.inr rfl, rfl⟩
  · exact ⟨1, Or.inl rfl, rfl⟩
/-- one cork -/
theorem bd_hit {X : ShS} (hw : 0 < w) (hd : due = -1 ∨ ∃ k, k < w ∧ due = nI k) (hw6 : w ≤ 6) (hT : ∃ a, a ≤ 50 ∧ T 10 = nI a) (hpb : ∃ x, x < 2147483648 ∧ pb = nI x) (h : bdF w R3 X.1) : bdF w R3 (rHit T R3 pb due q w i X).1 := by
  have ha := aim_lt (f := X.1) hw hd hw6
  obtain ⟨v, s, hv1, hvs, hs, e, e3⟩ := h.2.2.2 _ ha
  obtain ⟨d, hd12, ed⟩ := dm_n q i
  unfold rHit
  split
  · rename_i hc
    rw [hit_at, e, ed] at hc
    have hlt : d < v := by
      rcases Nat.lt_or_ge d v with c | c
      · exact c
      · exfalso
        have hz : ∀ v, v < 100 → ∀ d, d < 3 → v ≤ d → ¬ 0 < nI v - nI d := by decide +kernel
        exact hz v (by omega) d (by omega) c hc
    unfold hitF
    refine bd_L (bd_o h 9 _ (by decide) (Or.inl (by decide))) ⟨v - d, s, by omega, by omega, hs, ?_, e3⟩
    rw [upd_n (by omega), e, ed, pk_sub (by omega)]
  · unfold rBr
    refine bd_mv (by decide) (by decide) (by decide) hpb (bd_fr (bd_o (bd_o ?_ (18 + aimK due X.1 w) _ (by omega) (Or.inr (by omega))) 6 _ (by decide) (Or.inl (by decide))) (by obtain ⟨a, ha9, ea⟩ := hT; exact ⟨a, by omega, ea⟩))
    unfold hitF
    have e9 : ∀ (G : Nat → Int32) (k : Nat) (x y : Int32), upd (upd G k x) k y = upd G k y := by
      intro G k x y
      funext j
      unfold upd
      split <;> rfl
    rw [e9]
    exact bd_L (bd_o h 9 _ (by decide) (Or.inl (by decide))) ⟨s, s, by omega, Nat.le_refl s, hs, e3, e3⟩
theorem bd_sh (hw : 0 < w) (hd : due = -1 ∨ ∃ k, k < w ∧ due = nI k) (hw6 : w ≤ 6) (hT : ∃ a, a ≤ 50 ∧ T 10 = nI a) (hpb : ∃ x, x < 2147483648 ∧ pb = nI x) (h : bdF w R3 f) : ∀ n, bdF w R3 (rSh T R3 pb due q w f g n).1
  | 0 => h
  | n + 1 => bd_hit hw hd hw6 hT hpb (bd_sh hw hd hw6 hT hpb h n)
theorem bd_shN {ck : Nat} (hd : due = -1 ∨ ∃ k, k < w ∧ due = nI k) (hw6 : w ≤ 6) (hT : ∃ a, a ≤ 50 ∧ T 10 = nI a) (hpb : ∃ x, x < 2147483648 ∧ pb = nI x) (h : bdF w R3 f) : bdF w R3 (rSh T R3 pb due q w f g (nSh w ck)).1 := by
  unfold nSh
  split
  · exact h
  · exact bd_sh (by omega) hd hw6 hT hpb h ck
theorem bd_sg (h : bdF w R3 f) (v : Int32) : bdF w R3 (sgF f v) := bd_o (bd_o h 10 _ (by decide) (Or.inl (by decide))) 11 _ (by decide) (Or.inl (by decide))
/-- the bounds of a contract -/
def bdC (C : Nat → Int32) : Prop := (∃ a, a ≤ 999 ∧ C 0 = nI a) ∧ (∃ a, a ≤ 999 ∧ C 1 = nI a) ∧ ∃ a, a ≤ 99 ∧ C 4 = nI a
theorem bd_und {ck : Nat} {mm : Int32} (hd : due = -1 ∨ ∃ k, k < w ∧ due = nI k) (hw6 : w ≤ 6) (hq : q < 10) (hT : bdT T) (hC : bdC C) (h : bdF w R3 f) : bdF w R3 (rUnd T R3 C due q ck w mm f g) := by
  obtain ⟨⟨a, ha, ea⟩, ⟨b, hb, eb⟩, c, hc, ec⟩ := hC
  have hpay : ∃ x, x < 2147483648 ∧ payR (C 0) (C 1) mm = nI x := by
    unfold payR
    rw [ea, eb]
    split
    · exact ⟨b, by omega, rfl⟩
    · split
      · exact ⟨b, by omega, rfl⟩
      · exact ⟨a, by omega, rfl⟩
  unfold rUnd
  split
  · exact bd_sg (bd_o h 8 _ (by decide) (Or.inl (by decide))) _
  · unfold rShF
    refine bd_fr (bd_o (bd_shN hd hw6 hT.2.2.2.1 ⟨c, by omega, ec⟩ (bd_mv (by decide) (by decide) (by decide) hpay h)) 7 _ (by decide) (Or.inl (by decide))) ?_
    obtain ⟨x, hx, e⟩ := hT.2.2.2.2.2.2 q hq
    exact ⟨x, by omega, e⟩
end BD
end
section
section BD2
variable {T R3 R4 C f g : Nat → Int32} {w k q i : Nat} {d pb due : Int32}
theorem bd_fe (hT : bdT T) (h : bdF w R3 f) : bdF w R3 (rFe T f) := by
  unfold rFe
  refine bd_5 h ?_
  obtain ⟨-, -, -, -, ⟨a, ha, e⟩, -⟩ := hT
  obtain ⟨x, hx, e5⟩ := h.2.2.1
  rw [e, e5]
  by_cases c : nI x < nI a
  · rw [if_pos c]; exact ⟨0, by decide, rfl⟩
  · rw [if_neg c]
    have := (not_congr (nI_ltI (a := x) (b := a) (by omega) (by omega))).mp c
    exact ⟨x - a, by omega, pk_sub (by omega)⟩
theorem bd_md (hT : bdT T) (h4 : ∀ k, k < w → ∃ a, a ≤ 50 ∧ R4 k = nI a) (h : bdF w R3 f) : ∀ i, i ≤ w → bdF w R3 (rMd T R3 R4 f i)
  | 0, _ => h
  | i + 1, hi => by
    have ih := bd_md hT h4 h i (by omega)
    rw [rMd_s]
    generalize rMd T R3 R4 f i = F at ih
    obtain ⟨p, hp, ep⟩ := hT.2.2.2.2.2.1
    obtain ⟨hh, h50, eh⟩ := h4 i (by omega)
    obtain ⟨v, s, hv1, hvs, hs, ev, es⟩ := ih.2.2.2 i (by omega)
    obtain ⟨c0, b0, t0, e0, -, -, hsum⟩ := ih.1
    have hA : ∃ a, a ≤ s - v ∧ rMdA R3 R4 F i = nI a := by
      unfold rMdA
      rw [es, ev, eh, pk_sub hvs, mn_I (by omega) (by omega)]
      exact ⟨min (s - v) hh, by omega, rfl⟩
    obtain ⟨a, ha, ea⟩ := hA
    have hB : ∃ n, n ≤ s - v ∧ rMdB T F (nI a) = nI n := by
      unfold rMdB
      split
      · exact ⟨a, ha, rfl⟩
      · rename_i hne
        rw [ep] at hne
        have hp0 : 0 < p := Nat.pos_of_ne_zero (fun e => hne (by rw [e]; rfl))
        rw [e0, ep, pk_div (by omega) hp0 (by omega), mn_I (by have := Nat.div_le_self c0 p; omega) (by omega)]
        exact ⟨min (c0 / p) a, by omega, rfl⟩
    obtain ⟨n, hn, en⟩ := hB
    unfold rMdS
    rw [ea, en, ep, pk_mul]
    have hpn : p * n ≤ 9 * 99 := Nat.mul_le_mul hp (by omega)
    refine bd_L (bd_mv (by decide) (by decide) (by decide) ⟨p * n, by omega, rfl⟩ ih) ⟨v + n, s, by omega, by omega, hs, ?_, es⟩
    rw [mvF_n _ _ _ _ _ (by omega) (by omega), ev, nI_add]
theorem bd_ck1 (hT : bdT T) (h : bdF w R3 f) : bdF w R3 (rCk1 T f) := by
  unfold rCk1
  obtain ⟨a, ha, e⟩ := hT.1
  obtain ⟨m, n, e3, e4, hs⟩ := h.2.1
  have hb : m / 10 * a ≤ 300 * 9 := Nat.mul_le_mul (by omega) ha
  rw [e, e3, show (10 : Int32) = nI 10 from rfl, pk_div (by omega) (by decide) (by decide), pk_mul]
  exact bd_mv (by decide) (by decide) (by decide) ⟨_, by omega, rfl⟩ h
theorem bd_ck2 (hT : bdT T) (h : bdF w R3 f) : bdF w R3 (rCk2 T f) := by
  unfold rCk2
  obtain ⟨a, ha, e⟩ := hT.2.1
  obtain ⟨m, n, e3, e4, hs⟩ := h.2.1
  have hb : n / 10 * a ≤ 300 * 9 := Nat.mul_le_mul (by omega) ha
  rw [e, e4, show (10 : Int32) = nI 10 from rfl, pk_div (by omega) (by decide) (by decide), pk_mul]
  exact bd_mv (by decide) (by decide) (by decide) ⟨_, by omega, rfl⟩ h
theorem bd_tax (hT : bdT T) (h : bdF w R3 f) : bdF w R3 (rTax T f) := by
  unfold rTax
  obtain ⟨a, ha, e⟩ := hT.2.2.1
  obtain ⟨m, n, e3, e4, hs⟩ := h.2.1
  obtain ⟨x, hx, e5⟩ := h.2.2.1
  have hb : m * a ≤ 3000 * 100 := Nat.mul_le_mul (by omega) ha
  have hc : m * a * x ≤ 300000 * 100 := Nat.mul_le_mul hb hx
  rw [e, e3, e5, pk_mul, pk_mul, show (10000 : Int32) = nI 10000 from rfl, pk_div (by omega) (by decide) (by decide)]
  exact bd_mv (by decide) (by decide) (by decide) ⟨_, by have := Nat.div_le_self (m * a * x) 10000; omega, rfl⟩ h
theorem bd_34 (h : bdF w R3 f) {u v : Int32} (hu : ∃ m n, u = nI m ∧ v = nI n ∧ m + n ≤ 3000) : bdF w R3 (upd (upd f 3 u) 4 v) ∧ bdF w R3 (upd (upd f 4 v) 3 u) := by
  have e : upd (upd f 4 v) 3 u = upd (upd f 3 u) 4 v := upd_c (by decide)
  rw [e]
  have hn : ∀ z, z ≠ 3 → z ≠ 4 → upd (upd f 3 u) 4 v z = f z := fun z h3 h4 => by rw [upd_n h4, upd_n h3]
  have h3 : upd (upd f 3 u) 4 v 3 = u := by rw [upd_n (by decide), upd_s]
  have hh : bdF w R3 (upd (upd f 3 u) 4 v) := by
    unfold bdF
    rw [hn 0 (by decide) (by decide), hn 1 (by decide) (by decide), hn 2 (by decide) (by decide), hn 5 (by decide) (by decide), h3, upd_s]
    exact ⟨h.1, hu, h.2.2.1, fun k hk => by rw [hn _ (by omega) (by omega)]; exact h.2.2.2 k hk⟩
  exact ⟨hh, hh⟩
theorem bd_des (hT : bdT T) (h : bdF w R3 f) : bdF w R3 (rDes T f) := by
  obtain ⟨a, ha, e3⟩ := hT.1
  obtain ⟨b, hb, e6⟩ := hT.2.1
  obtain ⟨m, n, em, en, hs⟩ := h.2.1
  unfold rDes
  rw [e3, e6]
  split
  · rename_i c
    have c := (nI_ltI (a := a) (b := b) (by omega) (by omega)).mp c
    have hq : m * (b - a) / 100 ≤ m := by
      have : m * (b - a) ≤ m * 100 := Nat.mul_le_mul_left m (by omega)
      omega
    have hq2 : m * (b - a) ≤ 3000 * 9 := Nat.mul_le_mul (by omega) (by omega)
    refine (bd_34 h ⟨m - m * (b - a) / 100, n + m * (b - a) / 100, ?_, ?_, by omega⟩).1
    · rw [em, pk_sub (by omega), pk_mul, show (100 : Int32) = nI 100 from rfl, pk_div (by omega) (by decide) (by decide), pk_sub hq]
    · rw [upd_n (by decide), em, en, pk_sub (by omega), pk_mul, show (100 : Int32) = nI 100 from rfl, pk_div (by omega) (by decide) (by decide), nI_add]
  · rename_i c
    have c := (not_congr (nI_ltI (a := a) (b := b) (by omega) (by omega))).mp c
    have hq : n * (a - b) / 100 ≤ n := by
      have : n * (a - b) ≤ n * 100 := Nat.mul_le_mul_left n (by omega)
      omega
    have hq2 : n * (a - b) ≤ 3000 * 9 := Nat.mul_le_mul (by omega) (by omega)
    refine (bd_34 h ⟨m + n * (a - b) / 100, n - n * (a - b) / 100, ?_, ?_, by omega⟩).2
    · rw [upd_n (by decide), em, en, pk_sub (by omega), pk_mul, show (100 : Int32) = nI 100 from rfl, pk_div (by omega) (by decide) (by decide), nI_add]
    · rw [en, pk_sub (by omega), pk_mul, show (100 : Int32) = nI 100 from rfl, pk_div (by omega) (by decide) (by decide), pk_sub hq]
theorem bd_tail (hT : bdT T) (h4 : ∀ k, k < w → ∃ a, a ≤ 50 ∧ R4 k = nI a) (h : bdF w R3 f) : bdF w R3 (rTail T R3 R4 w f) := bd_des hT (bd_ck2 hT (bd_ck1 hT (bd_md hT h4 (bd_fe hT h) w (Nat.le_refl w))))
theorem bd_24 (hw6 : w ≤ 6) (h : bdF w R3 f) (v : Int32) : bdF w R3 (upd f 24 v) := bd_o h 24 v (by decide) (Or.inr (by omega))
theorem bd_end {q5 it mm : Nat} (hw6 : w ≤ 6) (h : bdF w R3 f) : bdF w R3 (rEnd q5 it mm f) := by
  have h11 : ∀ v, bdF w R3 (upd (upd f 24 (nI (mm + 1))) 11 v) := fun v => bd_o (bd_24 hw6 h _) 11 v (by decide) (Or.inl (by decide))
  unfold rEnd
  split
  · exact bd_24 hw6 h _
  · split
    · exact bd_sg (h11 _) _
    · exact h11 _
theorem bd_monN {mm : Nat} (hT : bdT T) (h4 : ∀ k, k < w → ∃ a, a ≤ 50 ∧ R4 k = nI a) (hw6 : w ≤ 6) (h : bdF w R3 f) : bdF w R3 (rMonN T R3 R4 w mm f) := bd_24 hw6 (bd_tail hT h4 (bd_tax hT h)) _
theorem bd_monP {ck q5 it mm : Nat} (hd : due = -1 ∨ ∃ k, k < w ∧ due = nI k) (hT : bdT T) (h4 : ∀ k, k < w → ∃ a, a ≤ 50 ∧ R4 k = nI a) (hC : bdC C) (hq : q < 10) (hw6 : w ≤ 6) (h : bdF w R3 f) : bdF w R3 (rMonP T R3 R4 C due q ck q5 it w mm f g) := bd_end hw6 (bd_tail hT h4 (bd_und hd hw6 hq hT hC (bd_tax hT h)))
end BD2
/-! what a month leaves of the places 10, 11, 24 -/
section K1
variable {T R3 R4 C f g : Nat → Int32} {w k q i : Nat} {d pb due : Int32}
theorem k_hit {X : ShS} (hw : 0 < w) (hd : due = -1 ∨ ∃ k, k < w ∧ due = nI k) (hw6 : w ≤ 6) : kpP X.1 (rHit T R3 pb due q w i X).1 := by
  have ha := aim_lt (f := X.1) hw hd hw6
  have h1 : kpP X.1 (hitF X.1 (aimK due X.1 w) (dmI q i)) := kp_u (kp_u (kp_r _) _ (by omega) (by omega) (by omega)) _ (by omega) (by omega) (by omega)
  unfold rHit
  split
  · exact h1
  · exact kp_m (kp_f (kp_u (kp_u (kp_u h1 _ (by omega) (by omega) (by omega)) _ (by omega) (by omega) (by omega)) _ (by omega) (by omega) (by omega)) _) _ (by omega) (by omega)
theorem k_sh (hd : due = -1 ∨ ∃ k, k < w ∧ due = nI k) (hw6 : w ≤ 6) (hw : 0 < w) : ∀ n, kpP f (rSh T R3 pb due q w f g n).1
  | 0 => kp_r _
  | n + 1 => kp_t (k_sh hd hw6 hw n) (k_hit hw hd hw6)
theorem k_shN {ck : Nat} (hd : due = -1 ∨ ∃ k, k < w ∧ due = nI k) (hw6 : w ≤ 6) : kpP f (rSh T R3 pb due q w f g (nSh w ck)).1 := by
  unfold nSh
  split
  · exact kp_r _
  · exact k_sh hd hw6 (by omega) ck
theorem k_shF {X : ShS} (h : kpP f X.1) : kpP f (rShF T due q X) := kp_f (kp_u h _ (by decide) (by decide) (by decide)) _
theorem k_md : ∀ i, i ≤ 6 → kpP f (rMd T R3 R4 f i)
  | 0, _ => kp_r _
  | i + 1, hi => by
    rw [rMd_s]
    exact kp_u (kp_m (k_md i (by omega)) _ (by decide) (by decide)) _ (by omega) (by omega) (by omega)
theorem k_des : kpP f (rDes T f) := by
  unfold rDes
  split <;> exact kp_u (kp_u (kp_r _) _ (by decide) (by decide) (by decide)) _ (by decide) (by decide) (by decide)
theorem k_tail (hw6 : w ≤ 6) : kpP f (rTail T R3 R4 w f) := kp_t (kp_m (kp_m (kp_t (kp_u (kp_r _) _ (by decide) (by decide) (by decide)) (k_md w hw6)) _ (by decide) (by decide)) _ (by decide) (by decide)) k_des
end K1
end
section
/-! a month, as the class counts it -/
theorem par2 : ∀ i : Nat, i < 101 → ((nI i - nI i / 2 * 2 = 0) ↔ i % 2 = 0) := by decide +kernel
theorem dm_a {q i : Nat} {cl : Int32} (h : cl = if q ≤ 4 then 1 else 0) (h0 : cl = 0) : 1 = dmI q i := by
  unfold dmI
  by_cases c : q ≤ 4
  · rw [if_pos c] at h; rw [h] at h0; exact absurd h0 (by decide)
  · rw [if_neg (fun h9 => c h9.1)]
theorem dm_b {q i : Nat} (hi : i < 101) (h : ¬ nI i - nI i / 2 * 2 = 0) : 1 = dmI q i := by
  unfold dmI
  rw [if_neg (fun h9 => h ((par2 i hi).mpr h9.2))]
theorem dm_c {q i : Nat} {cl : Int32} (h : cl = if q ≤ 4 then 1 else 0) (h0 : ¬ cl = 0) (hi : i < 101) (h2 : nI i - nI i / 2 * 2 = 0) : 2 = dmI q i := by
  unfold dmI
  by_cases c : q ≤ 4
  · rw [if_pos ⟨c, (par2 i hi).mp h2⟩]
  · rw [if_neg c] at h; exact absurd h h0
theorem wd_eq {wb : Nat → Int32} {it w : Nat} (hi : it < 36) (hw : w ≤ 6) (h : wb it = -1 ∨ ∃ k, k < w ∧ wb it = nI k) : wdF wb (nI it) (nI w) = wb it := by
  have e : wdX wb (nI it) = wb it := by
    unfold wdX
    rw [if_neg (show ¬ he_within (nI it) 0 35 = 0 from nI_inB (B := 35) (by decide) (show it ≤ 35 by omega)), nI_clamp (by omega)]
  unfold wdF
  rw [e]
  rcases h with h | ⟨k, hk, h⟩
  · rw [h]
    split <;> rfl
  · rw [h, if_neg (fun h9 => absurd ((nI_leI (by omega) (by omega)).mp h9) (by omega))]
/-- how the shooting stands behind n corks -/
def shR (T st : Nat → Int32) (pb due : Int32) (q w : Nat) (f g : Nat → Int32) (n : Nat) (t : Int32) (F G : Nat → Int32) : Prop :=
  F = (rSh T st pb due q w f g n).1 ∧ G = (rSh T st pb due q w f g n).2.1 ∧ (t = -1 ∨ ∃ k, k < 6 ∧ t = nI k ∧ k = aimK due F w) ∧ (∀ k, k < w → 0 < F (12 + k)) ∧ ∀ dk, dk < 6 → due = nI dk → ∃ b, b ≤ n ∧ F (18 + dk) = f (18 + dk) + nI b ∧ (rSh T st pb due q w f g n).2.2 = if b = 0 then 0 else 1
section SHR
variable {T st f g F G : Nat → Int32} {pb due t : Int32} {q w n k : Nat}
theorem i32_a0 (x : Int32) : x + nI 0 = x := by
  rw [show nI 0 = 0 from rfl, Int32.add_zero]
theorem i32_0a (x : Int32) : x + 0 = x := Int32.add_zero x
theorem shR_0 (hB : ∀ k, k < w → 0 < f (12 + k)) : shR T st pb due q w f g 0 (-1) f g := ⟨rfl, rfl, Or.inl rfl, hB, fun dk _ _ => ⟨0, Nat.le_refl 0, (i32_a0 _).symm, rfl⟩⟩
theorem shR_s (hw : 0 < w) (hw6 : w ≤ 6) (hd : due = -1 ∨ ∃ k, k < w ∧ due = nI k) (h : shR T st pb due q w f g n t F G) (hk : k = aimK due F w) (hc : 0 < hitF F k (dmI q (n + 1)) (12 + k)) : shR T st pb due q w f g (n + 1) (nI k) (hitF F k (dmI q (n + 1))) (upd G k (G k + 1)) := by
  obtain ⟨e1, e2, -, hB, hf⟩ := h
  have hl : k < w := by rw [hk]; exact aim_lt hw hd hw6
  have eX : rSh T st pb due q w f g (n + 1) = (hitF F k (dmI q (n + 1)), upd G k (G k + 1), (rSh T st pb due q w f g n).2.2) := by
    show rHit T st pb due q w (n + 1) (rSh T st pb due q w f g n) = _
    unfold rHit
    rw [← e1, ← e2, ← hk, if_pos hc]
  unfold shR
  rw [eX]
  refine ⟨rfl, rfl, Or.inr ⟨k, by omega, rfl, ?_⟩, fun j hj => ?_, fun dk hdk he => ?_⟩
  · have := aim_stick (F := F) (due := due) (q := q) (i := n + 1) hw (by rw [← hk]; exact hB k hl)
    rw [← hk] at this
    exact this.symm
  · by_cases e : j = k
    · rw [e]; exact hc
    · rw [hit_ne (by omega) (by omega)]; exact hB j hj
  · obtain ⟨b, hb, h1, h2⟩ := hf dk hdk he
    exact ⟨b, by omega, by rw [hit_ne (by omega) (by omega)]; exact h1, h2⟩
theorem shR_b (hw : 0 < w) (hw6 : w ≤ 6) (hd : due = -1 ∨ ∃ k, k < w ∧ due = nI k) (hst : ∀ k, k < w → 0 < st k) (hn : n < 1000) (h : shR T st pb due q w f g n t F G) (hk : k = aimK due F w) (hc : ¬ 0 < hitF F k (dmI q (n + 1)) (12 + k)) : shR T st pb due q w f g (n + 1) (-1) (rBr T st pb (hitF F k (dmI q (n + 1))) k) (upd G k (G k + 1)) := by
  obtain ⟨e1, e2, -, hB, hf⟩ := h
  have hl : k < w := by rw [hk]; exact aim_lt hw hd hw6
  have eX : rSh T st pb due q w f g (n + 1) = (rBr T st pb (hitF F k (dmI q (n + 1))) k, upd G k (G k + 1), 1) := by
    show rHit T st pb due q w (n + 1) (rSh T st pb due q w f g n) = _
    unfold rHit
    rw [← e1, ← e2, ← hk, if_neg hc]
  have hz : ∀ z, 12 ≤ z → z < 24 → z ≠ 12 + k → z ≠ 18 + k → rBr T st pb (hitF F k (dmI q (n + 1))) k z = F z := by
    intro z h1 h2 h3 h4
    unfold rBr frF
    rw [mvF_n _ _ _ _ _ (by omega) (by omega), upd_n (by omega), upd_n (by omega), upd_n h4, upd_n h3, hit_ne (by omega) h3]
  unfold shR
  rw [eX]
  refine ⟨rfl, rfl, Or.inl rfl, fun j hj => ?_, fun dk hdk he => ?_⟩
  · by_cases e : j = k
    · rw [e]
      unfold rBr frF
      rw [mvF_n _ _ _ _ _ (by omega) (by omega), upd_n (by omega), upd_n (by omega), upd_n (by omega), upd_s]
      exact hst k hl
    · rw [hz _ (by omega) (by omega) (by omega) (by omega)]; exact hB j hj
  · obtain ⟨b, hb, h1, h2⟩ := hf dk hdk he
    have ek : k = dk := by
      rw [hk]
      unfold aimK
      rw [he, if_neg (nI_nm1 (by omega)), nI_clamp (by omega)]
    subst ek
    refine ⟨b + 1, by omega, ?_, by rw [if_neg (by omega)]⟩
    unfold rBr frF
    rw [mvF_n _ _ _ _ _ (by omega) (by omega), upd_n (by omega), upd_n (by omega), upd_s, upd_n (by omega), hit_ne (by omega) (by omega), h1, nI_succ, Int32.add_assoc]
theorem miss_0 (F : Nat → Int32) : upd F 7 (F 7 + 0) = F := by
  rw [i32_0a]; exact upd_id F 7
/-- the corks are shot: what is missed -/
theorem shR_e0 (hd : due = -1) (h : shR T st pb due q w f g n t F G) : F = upd (rSh T st pb due q w f g n).1 7 ((rSh T st pb due q w f g n).1 7 + rMiss due (rSh T st pb due q w f g n).2.2) := by
  unfold rMiss
  rw [if_pos hd, ← h.1]
  exact (miss_0 F).symm
theorem shR_e1 {dk : Nat} (hdk : dk < 6) (hd : due = nI dk) (hn : n < 1000) (h : shR T st pb due q w f g n t F G) (he : F (18 + dk) = f (18 + dk)) : upd F 7 (F 7 + 1) = upd (rSh T st pb due q w f g n).1 7 ((rSh T st pb due q w f g n).1 7 + rMiss due (rSh T st pb due q w f g n).2.2) := by
  obtain ⟨b, hb, h1, h2⟩ := h.2.2.2.2 dk hdk hd
  have hb0 : b = 0 := by
    rw [he] at h1
    have hz : nI b = 0 := by
      have := congrArg (fun z => z - f (18 + dk)) h1
      rw [Int32.sub_self, Int32.add_comm, Int32.add_sub_cancel] at this
      exact this.symm
    exact (nI_eq (a := b) (b := 0) (by omega) (by decide)).mp hz
  rw [← h.1, h2, hb0]
  unfold rMiss
  rw [hd, if_neg (nI_nm1 (by omega)), if_pos rfl, if_pos rfl]
theorem shR_e2 {dk : Nat} (hdk : dk < 6) (hd : due = nI dk) (h : shR T st pb due q w f g n t F G) (he : ¬ F (18 + dk) = f (18 + dk)) : F = upd (rSh T st pb due q w f g n).1 7 ((rSh T st pb due q w f g n).1 7 + rMiss due (rSh T st pb due q w f g n).2.2) := by
  obtain ⟨b, hb, h1, h2⟩ := h.2.2.2.2 dk hdk hd
  have hb0 : ¬ b = 0 := fun e => he (by rw [h1, e]; exact i32_a0 _)
  rw [← h.1, h2, if_neg hb0]
  unfold rMiss
  rw [hd, if_neg (nI_nm1 (by omega)), if_neg (by decide)]
  exact (miss_0 F).symm
end SHR
/-- the places that a month of the class and one of the reference share -/
def nP (i : Nat) : Prop := i < 24 ∧ i ≠ 11
theorem nP_in : inP nP := fun _ h1 h2 => ⟨h1, h2⟩
section MOC
variable {sd fn st me f F Z g C : Nat → Int32} {due : Int32} {q ck w q5 it mm : Nat}
theorem fa_eq (hq : q ≤ 9) : faF fn (nI q) = fn q := by
  unfold faF
  rw [if_neg (show ¬ he_within (nI q) 0 9 = 0 from nI_inB (B := 9) (by decide) hq), nI_clamp (by omega)]
/-- behind the corks, or behind the unpaid contract -/
theorem und_p (hp : payF C (nI mm) ≤ f 0) (e : F = upd (rSh (tOf sd fn) st (C 4) due q w (mvF f 0 1 (payF C (nI mm))) g (nSh w ck)).1 7 ((rSh (tOf sd fn) st (C 4) due q w (mvF f 0 1 (payF C (nI mm))) g (nSh w ck)).1 7 + rMiss due (rSh (tOf sd fn) st (C 4) due q w (mvF f 0 1 (payF C (nI mm))) g (nSh w ck)).2.2)) : frF F (fn q) = rUnd (tOf sd fn) st (cOf C) due q ck w (nI mm) f g := by
  unfold rUnd rShF
  rw [payF_eq] at hp e
  rw [if_neg (Int32.not_lt.mpr hp), tOf_15, e]
  rfl
theorem und_pG (hp : payF C (nI mm) ≤ f 0) : rUndG (tOf sd fn) st (cOf C) due q ck w (nI mm) f g = (rSh (tOf sd fn) st (C 4) due q w (mvF f 0 1 (payF C (nI mm))) g (nSh w ck)).2.1 := by
  unfold rUndG
  rw [payF_eq] at hp ⊢
  rw [if_neg (Int32.not_lt.mpr hp)]
  rfl
theorem und_d (hp : ¬ payF C (nI mm) ≤ f 0) : eqP nP (dfF f) (rUnd (tOf sd fn) st (cOf C) due q ck w (nI mm) f g) ∧ rUndG (tOf sd fn) st (cOf C) due q ck w (nI mm) f g = g := by
  rw [payF_eq] at hp
  have hp := Int32.not_le.mp hp
  refine ⟨fun i hi => ?_, ?_⟩
  · unfold rUnd dfF
    rw [if_pos hp, sgFx hi.2]
  · unfold rUndG
    rw [if_pos hp]
theorem und_11 (hd : due = -1 ∨ ∃ k, k < w ∧ due = nI k) (hw6 : w ≤ 6) {p pb d : Int32} {T : Nat → Int32} (e : F = upd (rSh T st pb due q w (mvF f 0 1 p) g (nSh w ck)).1 7 ((rSh T st pb due q w (mvF f 0 1 p) g (nSh w ck)).1 7 + rMiss due (rSh T st pb due q w (mvF f 0 1 p) g (nSh w ck)).2.2)) : frF F d 11 = f 11 := by
  rw [e]
  unfold frF
  rw [upd_n (by decide), upd_n (by decide), (k_shN hd hw6).2.1, mvF_n _ _ _ _ _ (by decide) (by decide)]
theorem ps_n {me : Nat → Int32} {k : Nat} (h : 6 ≤ k) (h2 : k < 12) : psT sd st me w F k = F k := by
  unfold psT psD psC psB psA
  rw [dsF_n _ _ _ (by omega) (by omega), mvF_n _ _ _ _ _ (by omega) (by omega), mvF_n _ _ _ _ _ (by omega) (by omega), mendF_n _ _ _ _ _ (by omega) (by omega) h2, upd_n (by omega)]
theorem bd_pay (h : bdC (cOf C)) (mo : Int32) : ∃ x, x < 2147483648 ∧ payF C mo = nI x := by
  obtain ⟨⟨a, ha, ea⟩, ⟨b, hb, eb⟩, -⟩ := h
  rw [payF_eq]
  unfold payR
  rw [ea, eb]
  split
  · exact ⟨b, by omega, rfl⟩
  · split
    · exact ⟨b, by omega, rfl⟩
    · exact ⟨a, by omega, rfl⟩
theorem bd_pos (h : bdF w st f) : ∀ k, k < w → 0 < f (12 + k) := fun k hk => by
  obtain ⟨v, s, h1, h2, h3, e, -⟩ := h.2.2.2 k hk
  rw [e]
  exact (nI_ltI (a := 0) (b := v) (by decide) (by omega)).mpr h1
theorem bd_st (h : bdF w st f) : ∀ k, k < w → 0 < st k := fun k hk => by
  obtain ⟨v, s, h1, h2, h3, -, e⟩ := h.2.2.2 k hk
  rw [e]
  exact (nI_ltI (a := 0) (b := s) (by decide) (by omega)).mpr (by omega)
/-- the month's end -/
theorem end_p (hiq : it + 1 = q5) (h : eqP nP F Z) : eqP nP (upd F 10 (-1)) (rEnd q5 it mm Z) := by
  intro i hi
  unfold rEnd
  by_cases e : Z 10 = -1
  · rw [if_pos e, upd_n (show i ≠ 24 by have := hi.1; omega)]
    by_cases e2 : i = 10
    · rw [e2, upd_s, e]
    · rw [upd_n e2]; exact h i hi
  · rw [if_neg e, if_pos hiq, sgFx hi.2]
    by_cases e2 : i = 10
    · rw [e2, upd_s, upd_s]
    · rw [upd_n e2, upd_n e2, upd_n hi.2, upd_n (show i ≠ 24 by have := hi.1; omega)]; exact h i hi
theorem end_n (hiq : it + 1 < q5) (h : eqP nP F Z) : eqP nP F (rEnd q5 it mm Z) := by
  intro i hi
  unfold rEnd
  split
  · rw [upd_n (show i ≠ 24 by have := hi.1; omega)]; exact h i hi
  · rw [if_neg (by omega), upd_n hi.2, upd_n (show i ≠ 24 by have := hi.1; omega)]; exact h i hi
end MOC
end
section
/-! a month, as the reference walks it -/
theorem vup0 (M : Nat → Nat → Int32) (a : Nat) : va_up M a (M a) = M := by
  funext b
  unfold va_up
  by_cases h : b = a
  · rw [if_pos h, h]
  · rw [if_neg h]
theorem vup2 (M : Nat → Nat → Int32) (a : Nat) (g : Nat → Int32) (k : Nat) : va_up (va_up M a g) a (upd ((va_up M a g) a) k ((va_up M a g) a k + 1)) = va_up M a (upd g k (g k + 1)) := by
  funext b
  unfold va_up
  by_cases h : b = a
  · rw [if_pos h, if_pos h, if_pos rfl]
  · rw [if_neg h, if_neg h, if_neg h]
theorem vupn {M : Nat → Nat → Int32} {a b : Nat} {g : Nat → Int32} (h : b ≠ a) : va_up M a g b = M b := if_neg h
theorem vups {M : Nat → Nat → Int32} {a : Nat} {g : Nat → Int32} : va_up M a g a = g := if_pos rfl
section RS
variable {T R3 f g F G : Nat → Int32} {pb due fl : Int32} {q w n k i : Nat}
theorem dm_2 (h : q ≤ 4) (hi : i < 101) (h2 : nI i - nI i / 2 * 2 = 0) : 2 = dmI q i := by
  unfold dmI
  rw [if_pos ⟨h, (par2 i hi).mp h2⟩]
theorem dm_1 (h : ¬ q ≤ 4) : 1 = dmI q i := by
  unfold dmI
  rw [if_neg (fun h9 => h h9.1)]
theorem rS_s (hX : rSh T R3 pb due q w f g n = (F, G, fl)) (hk : k = aimK due F w) (hc : 0 < hitF F k (dmI q (n + 1)) (12 + k)) : rSh T R3 pb due q w f g (n + 1) = (hitF F k (dmI q (n + 1)), upd G k (G k + 1), fl) := by
  show rHit T R3 pb due q w (n + 1) (rSh T R3 pb due q w f g n) = _
  unfold rHit
  rw [hX]
  dsimp only
  rw [← hk, if_pos hc]
theorem rS_b (hX : rSh T R3 pb due q w f g n = (F, G, fl)) (hk : k = aimK due F w) (hc : ¬ 0 < hitF F k (dmI q (n + 1)) (12 + k)) : rSh T R3 pb due q w f g (n + 1) = (rBr T R3 pb (hitF F k (dmI q (n + 1))) k, upd G k (G k + 1), 1) := by
  show rHit T R3 pb due q w (n + 1) (rSh T R3 pb due q w f g n) = _
  unfold rHit
  rw [hX]
  dsimp only
  rw [← hk, if_neg hc]
theorem k_shX (hd : due = -1 ∨ ∃ k, k < w ∧ due = nI k) (hw6 : w ≤ 6) (hw : 0 < w) (hX : rSh T R3 pb due q w f g n = (F, G, fl)) : kpP f F := by
  have := k_sh (T := T) (R3 := R3) (pb := pb) (q := q) (f := f) (g := g) hd hw6 hw n
  rw [hX] at this
  exact this
theorem pay_1 {c0 c1 m : Int32} (h : 9 < m - m / 12 * 12) : c1 = payR c0 c1 m := by unfold payR; rw [if_pos h]
theorem pay_2 {c0 c1 m : Int32} (h : ¬ 9 < m - m / 12 * 12) (h2 : ¬ 2 ≤ m - m / 12 * 12) : c1 = payR c0 c1 m := by unfold payR; rw [if_neg h, if_pos (Int32.not_le.mp h2)]
theorem pay_3 {c0 c1 m : Int32} (h : ¬ 9 < m - m / 12 * 12) (h2 : 2 ≤ m - m / 12 * 12) : c0 = payR c0 c1 m := by unfold payR; rw [if_neg h, if_neg (Int32.not_lt.mpr h2)]
theorem md_pool {T f : Nat → Int32} {M M2 : Nat → Nat → Int32} {r : Nat → Nat} {w : Nat} (hw6 : w ≤ 6) (h : ∀ i, i < w → M2 (r i) = M (r i)) : rMd T (fun i => M2 (r i) 0) (fun i => M2 (r i) 1) f w = rMd T (fun i => M (r i) 0) (fun i => M (r i) 1) f w := by
  funext i
  exact cg_md (P := fun _ => True) (fun _ _ _ => trivial) rfl (fun k hk => by rw [h k hk]) (fun k hk => by rw [h k hk]) hw6 cg_r w (Nat.le_refl w) i trivial
end RS
section UN
variable {T R3 C f g : Nat → Int32} {due mm : Int32} {q ck w ci it : Nat}
theorem und_10 (hd : due = -1 ∨ ∃ k, k < w ∧ due = nI k) (hw6 : w ≤ 6) {x : Int32} (h : f 10 = x) (hn : ¬ rUnd T R3 C due q ck w mm f g 10 = -1) : rUnd T R3 C due q ck w mm f g 10 = x := by
  unfold rUnd at hn ⊢
  split
  · rename_i c
    rw [if_pos c, sgF_10] at hn
    exact absurd rfl hn
  · rw [(k_shF (k_shN hd hw6)).1, mvF_n _ _ _ _ _ (by decide) (by decide)]
    exact h
theorem und_it (hd : due = -1 ∨ ∃ k, k < w ∧ due = nI k) (hw6 : w ≤ 6) {x : Int32} (h : f 11 = x) (hn : ¬ rUnd T R3 C due q ck w mm f g 10 = -1) : rUnd T R3 C due q ck w mm f g 11 = x := by
  unfold rUnd at hn ⊢
  split
  · rename_i c
    rw [if_pos c, sgF_10] at hn
    exact absurd rfl hn
  · rw [(k_shF (k_shN hd hw6)).2.1, mvF_n _ _ _ _ _ (by decide) (by decide)]
    exact h
theorem und_24 (hd : due = -1 ∨ ∃ k, k < w ∧ due = nI k) (hw6 : w ≤ 6) : rUnd T R3 C due q ck w mm f g 24 = f 24 := by
  unfold rUnd
  split
  · rw [sg_24, upd_n (by decide)]
  · rw [(k_shF (k_shN hd hw6)).2.2, mvF_n _ _ _ _ _ (by decide) (by decide)]
end UN
end
section
/-! rows that both sides stand for: 2 what the siege's text says, 3 strengths, 4 what is mended, 5 how things stand, 10 .. contracts, 20 .. their breaches, 30, 31 offers, 40 .. the months gone, 200 .. the corks led -/
abbrev Rw : Type := Nat → Nat → Int32
def toN (x : Int32) : Nat := x.toNatClampNeg
theorem toN_I {n : Nat} (h : n < 2147483648) : toN (nI n) = n := nI_clamp h
def aMon (R : Rw) (w mm : Nat) : Nat → Int32 := if R 5 10 = -1 then rMonN (R 2) (R 3) (R 4) w mm (R 5) else rMonP (R 2) (R 3) (R 4) (R (10 + toN (R 5 10))) (R (20 + toN (R 5 10)) (toN (R 5 11))) (toN (R (10 + toN (R 5 10)) 2)) (toN (R (10 + toN (R 5 10)) 3)) (toN (R (10 + toN (R 5 10)) 5)) (toN (R 5 11)) w mm (R 5) (fun _ => 0)
def aMonG (R : Rw) (w mm : Nat) : Nat → Int32 := if R 5 10 = -1 then fun _ => 0 else rMonG (R 2) (R 3) (R (10 + toN (R 5 10))) (R (20 + toN (R 5 10)) (toN (R 5 11))) (toN (R (10 + toN (R 5 10)) 2)) (toN (R (10 + toN (R 5 10)) 3)) w mm (R 5) (fun _ => 0)
def aM1 (R : Rw) (w mm : Nat) : Rw := fun i => if i = 5 then aMon R w mm else if i = 40 + mm then R 5 else if i = 200 + mm then aMonG R w mm else R i
def aMs (R : Rw) (w mm : Nat) : Nat → Rw
  | 0 => R
  | j + 1 => aM1 (aMs R w mm j) w (mm + j)
theorem aMs_n {R : Rw} {w mm i : Nat} (h5 : i ≠ 5) (h : i < 40) : ∀ j, aMs R w mm j i = R i
  | 0 => rfl
  | j + 1 => by
    show aM1 (aMs R w mm j) w (mm + j) i = _
    unfold aM1
    rw [if_neg h5, if_neg (by omega), if_neg (by omega)]
    exact aMs_n h5 h j
/-- a row of how things stood in month m: none in force, or one that is told, within its till -/
def nowG (R : Rw) (nt m : Nat) (F : Nat → Int32) : Prop := (F 10 = -1 ∧ F 11 = -1) ∨ ∃ c it, c < nt ∧ F 10 = nI c ∧ F 11 = nI it ∧ it ≤ m ∧ it < toN (R (10 + c) 5)
/-- the class's row of it -/
def nowC (m : Nat) (f F : Nat → Int32) : Prop := eqP nP f F ∧ ((F 10 = -1 ∧ F 11 = -1) ∨ (¬ F 10 = -1 ∧ ∃ it sg, F 11 = nI it ∧ f 11 = nI sg ∧ sg + it = m))
/-- a contract's bounds -/
def conG (w : Nat) (C B : Nat → Int32) : Prop := (∃ q, q ≤ 9 ∧ C 2 = nI q) ∧ (∃ q, q ≤ 99 ∧ C 3 = nI q) ∧ (∃ q, 1 ≤ q ∧ q ≤ 36 ∧ C 5 = nI q) ∧ bdC C ∧ ∀ m, m < 36 → B m = -1 ∨ ∃ k, k < w ∧ B m = nI k
/-- all bounds -/
def okA (w nt mm : Nat) (R : Rw) : Prop := w ≤ 6 ∧ nt ≤ 6 ∧ mm ≤ 120 ∧ bdT (R 2) ∧ (∀ k, k < w → ∃ a, a ≤ 50 ∧ R 4 k = nI a) ∧ bdF w (R 3) (R 5) ∧ nowG R nt mm (R 5) ∧ (∀ c, c < nt → conG w (R (10 + c)) (R (20 + c))) ∧ ∀ t, t < mm → bdF w (R 3) (R (40 + t)) ∧ nowG R nt t (R (40 + t))
theorem tn_nI {n : Nat} (h : n < 2147483648) : (nI n).toNatClampNeg = n := by
  show (Int32.ofNat n).toInt.toNat = n
  rw [Int32.toInt_ofNat_of_lt (by omega)]
  exact Int.toNat_natCast n
theorem nI_j {a b : Nat} (ha : a < 2147483648) (hb : b < 2147483648) (h : nI a = nI b) : a = b := by
  have := tn_nI ha
  rw [h, tn_nI hb] at this
  exact this.symm
section AM
variable {R : Rw} {w nt mm : Nat}
theorem mp_now {T R3 R4 C f g : Nat → Int32} {due : Int32} {q ck q5 it ci : Nat} (hd : due = -1 ∨ ∃ k, k < w ∧ due = nI k) (hw6 : w ≤ 6) (h10 : f 10 = nI ci) (h11 : f 11 = nI it) (hci : ci < 7) (hiq : it < q5) : (rMonP T R3 R4 C due q ck q5 it w mm f g 10 = -1 ∧ rMonP T R3 R4 C due q ck q5 it w mm f g 11 = -1) ∨ (rMonP T R3 R4 C due q ck q5 it w mm f g 10 = nI ci ∧ rMonP T R3 R4 C due q ck q5 it w mm f g 11 = nI (it + 1) ∧ it + 1 < q5) := by
  have ht10 : rTax T f 10 = nI ci := (mvF_n _ _ _ _ _ (by decide) (by decide)).trans h10
  have ht11 : rTax T f 11 = nI it := (mvF_n _ _ _ _ _ (by decide) (by decide)).trans h11
  have hk := k_tail (T := T) (R3 := R3) (R4 := R4) (f := rUnd T R3 C due q ck w (nI mm) (rTax T f) g) hw6
  unfold rMonP rEnd
  by_cases e : rTail T R3 R4 w (rUnd T R3 C due q ck w (nI mm) (rTax T f) g) 10 = -1
  · left
    rw [if_pos e]
    refine ⟨by rw [upd_n (by decide)]; exact e, ?_⟩
    rw [upd_n (by decide), hk.2.1]
    have e2 := hk.1.symm.trans e
    unfold rUnd at e2 ⊢
    split
    · unfold sgF; rw [upd_s, if_pos rfl]
    · rename_i c
      rw [if_neg c, (k_shF (k_shN hd hw6)).1, mvF_n _ _ _ _ _ (by decide) (by decide), ht10] at e2
      exact absurd e2 (nI_nm1 (by omega))
  · rw [if_neg e]
    have e10 := und_10 hd hw6 ht10 (fun h9 => e (hk.1.trans h9))
    by_cases c : it + 1 = q5
    · left
      rw [if_pos c]
      exact ⟨sgF_10 _ _, by unfold sgF; rw [upd_s, if_pos rfl]⟩
    · right
      rw [if_neg c]
      exact ⟨by rw [upd_n (by decide), upd_n (by decide)]; exact hk.1.trans e10, upd_s, by omega⟩
theorem mn_now {T R3 R4 f : Nat → Int32} (hw6 : w ≤ 6) : kpP f (rTail T R3 R4 w (rTax T f)) := kp_t (kp_m (kp_r _) _ (by decide) (by decide)) (k_tail hw6)
theorem aM_n {i : Nat} (h5 : i ≠ 5) (h : i < 40) : aM1 R w mm i = R i := by
  unfold aM1
  rw [if_neg h5, if_neg (by omega), if_neg (by omega)]
theorem nowG_c {R2 : Rw} {F : Nat → Int32} {m m2 : Nat} (h : nowG R nt m F) (he : ∀ c, c < nt → R2 (10 + c) = R (10 + c)) (hm : m ≤ m2) : nowG R2 nt m2 F := by
  rcases h with h | ⟨c, it, h1, h2, h3, h4, h5⟩
  · exact Or.inl h
  · exact Or.inr ⟨c, it, h1, h2, h3, by omega, by rw [he c h1]; exact h5⟩
/-- a month more keeps the bounds -/
theorem ok_m1 (h : okA w nt mm R) (hm : mm < 120) : okA w nt (mm + 1) (aM1 R w mm) := by
  obtain ⟨hw, hn, -, hT, h4, hF, hN, hC, hG⟩ := h
  have h10 : ∀ c, c < nt → aM1 R w mm (10 + c) = R (10 + c) := fun c hc => aM_n (by omega) (by omega)
  have h20 : ∀ c, c < nt → aM1 R w mm (20 + c) = R (20 + c) := fun c hc => aM_n (by omega) (by omega)
  have e5 : aM1 R w mm 5 = aMon R w mm := if_pos rfl
  unfold okA
  rw [aM_n (i := 2) (by decide) (by decide), aM_n (i := 3) (by decide) (by decide), aM_n (i := 4) (by decide) (by decide), e5]
  have main : bdF w (R 3) (aMon R w mm) ∧ nowG (aM1 R w mm) nt (mm + 1) (aMon R w mm) := by
    unfold aMon
    rcases hN with ⟨a, b⟩ | ⟨c, it, h1, h2, h3, h9, h5⟩
    · rw [if_pos a]
      refine ⟨bd_monN hT h4 hw hF, Or.inl ?_⟩
      have hk := mn_now (T := R 2) (R3 := R 3) (R4 := R 4) (f := R 5) hw
      exact ⟨by unfold rMonN; rw [upd_n (by decide), hk.1]; exact a, by unfold rMonN; rw [upd_n (by decide), hk.2.1]; exact b⟩
    · obtain ⟨⟨q, hq, eq⟩, ⟨ck, hck, eck⟩, ⟨q5, hq1, hq36, eq5⟩, hb, hB⟩ := hC c h1
      rw [eq5, toN_I (by omega)] at h5
      rw [h2, if_neg (nI_nm1 (by omega)), toN_I (by omega), h3, toN_I (by omega), eq, toN_I (by omega), eck, toN_I (by omega), eq5, toN_I (by omega)]
      have hd := hB it (by omega)
      refine ⟨bd_monP hd hT h4 hb (by omega) hw hF, ?_⟩
      rcases mp_now (T := R 2) (R3 := R 3) (R4 := R 4) (C := R (10 + c)) (q := q) (ck := ck) (mm := mm) (g := fun _ => 0) hd hw h2 h3 (by omega) h5 with z | ⟨z1, z2, z3⟩
      · exact Or.inl z
      · exact Or.inr ⟨c, it + 1, h1, z1, z2, by omega, by rw [h10 c h1, eq5, toN_I (by omega)]; exact z3⟩
  refine ⟨hw, hn, by omega, hT, h4, main.1, main.2, fun c hc => by rw [h10 c hc, h20 c hc]; exact hC c hc, fun t ht => ?_⟩
  by_cases e : t = mm
  · subst e
    have eg : aM1 R w t (40 + t) = R 5 := by unfold aM1; rw [if_neg (by omega), if_pos rfl]
    rw [eg]
    exact ⟨hF, nowG_c hN h10 (Nat.le_refl _)⟩
  · have eg : aM1 R w mm (40 + t) = R (40 + t) := by unfold aM1; rw [if_neg (by omega), if_neg (by omega), if_neg (by omega)]
    rw [eg]
    have := hG t (by omega)
    exact ⟨this.1, nowG_c this.2 h10 (Nat.le_refl _)⟩
theorem ok_ms (h : okA w nt mm R) : ∀ j, mm + j ≤ 120 → okA w nt (mm + j) (aMs R w mm j)
  | 0, _ => h
  | j + 1, hj => ok_m1 (ok_ms h j (by omega)) (show mm + j < 120 by omega)
end AM
end
section
/-- breaches told; what rule() answers -/
def cnF (B : Nat → Int32) : Nat → Nat
  | 0 => 0
  | m + 1 => cnF B m + (if B m = -1 then 0 else 1)
theorem cnF_e {B : Nat → Int32} {m : Nat} (h : B m = -1) : cnF B (m + 1) = cnF B m := by rw [cnF, if_pos h, Nat.add_zero]
theorem cnF_n {B : Nat → Int32} {m : Nat} (h : ¬ B m = -1) : cnF B (m + 1) = cnF B m + 1 := by rw [cnF, if_neg h]
def rlA (pd wb : Nat → Int32) (k : Nat) : Int32 := if k = 6 then nI (cnF wb 36) else if k = 1 then wpF pd else pd k
/-- the first nearness from r on that is wanted for so much -/
def neC (sd : Nat → Int32) (p k : Int32) : Nat → Nat → Int32
  | 0, _ => -1
  | f + 1, r => if wantF sd (nI r) k ≤ p then nI r else neC sd p k f (r + 1)
end
section
/-! months, the class's side -/
def datC (w : Nat) (sd fn st me : Nat → Int32) (R : Rw) : Prop := (∀ i, 0 < i → i < 25 → tOf sd fn i = R 2 i) ∧ ∀ k, k < w → st k = R 3 k ∧ me k = R 4 k
def conC (pd wb C B : Nat → Int32) : Prop := cOf pd 0 = C 0 ∧ cOf pd 1 = C 1 ∧ pd 2 = C 2 ∧ pd 3 = C 3 ∧ pd 4 = C 4 ∧ pd 5 = C 5 ∧ (∀ m, m < 36 → wb m = B m) ∧ nI (cnF wb 36) = C 6
def lnC (ln : Nat → Int32) (mm : Nat) (R : Rw) : Prop := ∀ t, t < mm → nowC t (fun i => ln (t * 30 + i)) (R (40 + t)) ∧ ∀ j, j < 6 → ln (t * 30 + 24 + j) = R (200 + t) j
theorem bdT_cg {T T2 : Nat → Int32} (e : ∀ i, 0 < i → i < 25 → T i = T2 i) (h : bdT T2) : bdT T := by
  obtain ⟨h1, h2, h3, h4, h5, h6, h7⟩ := h
  unfold bdT
  rw [e 3 (by decide) (by decide), e 6 (by decide) (by decide), e 8 (by decide) (by decide), e 10 (by decide) (by decide), e 11 (by decide) (by decide), e 12 (by decide) (by decide)]
  exact ⟨h1, h2, h3, h4, h5, h6, fun r hr => by rw [e (15 + r) (by omega) (by omega)]; exact h7 r hr⟩
theorem bdF_cg {w : Nat} {f F R3 S3 : Nat → Int32} (hw : w ≤ 6) (e : eqP nP f F) (e3 : ∀ k, k < w → S3 k = R3 k) (h : bdF w R3 F) : bdF w S3 f := by
  have a : ∀ i, i < 11 → f i = F i := fun i hi => e i ⟨by omega, by omega⟩
  unfold bdF
  rw [a 0 (by decide), a 1 (by decide), a 2 (by decide), a 3 (by decide), a 4 (by decide), a 5 (by decide)]
  refine ⟨h.1, h.2.1, h.2.2.1, fun k hk => ?_⟩
  rw [e (12 + k) ⟨by omega, by omega⟩, e3 k hk]
  exact h.2.2.2 k hk
theorem bdC_cg {pd wb C B : Nat → Int32} (e : conC pd wb C B) (h : bdC C) : bdC (cOf pd) := by
  obtain ⟨e0, e1, -, -, e4, -⟩ := e
  have e4 : cOf pd 4 = C 4 := e4
  unfold bdC
  rw [e0, e1, e4]
  exact h
section MC
variable {sd fn st me pd wb F G f us uf g0 sh : Nat → Int32} {R : Rw} {w nt mm ci q2 ck q5 it sg : Nat}
theorem now_lt (hok : okA w nt mm R) (h10 : R 5 10 = nI ci) (h11 : R 5 11 = nI it) (hcn : ci < nt) (hq5 : R (10 + ci) 5 = nI q5) (hq : q5 ≤ 36) (hit : it < 2147483648) : it < q5 := by
  obtain ⟨-, hn, hm, -, -, -, hN, -, -⟩ := hok
  rcases hN with ⟨a, -⟩ | ⟨c, i2, h1, h2, h3, h4, h5⟩
  · exact absurd (h10.symm.trans a) (nI_nm1 (by omega))
  · have ec : c = ci := nI_j (by omega) (by omega) (h2.symm.trans h10)
    have ei : i2 = it := nI_j (by omega) hit (h3.symm.trans h11)
    rw [ec, hq5, toN_I (by omega), ei] at h5
    exact h5
theorem mo_in (hok : okA w nt mm R) (hdat : datC w sd fn st me R) (hcon : conC pd wb (R (10 + ci)) (R (20 + ci))) (hcn : ci < nt) (hq2 : pd 2 = nI q2) (hq9 : q2 ≤ 9) (hck : pd 3 = nI ck) (hc99 : ck ≤ 99) (hq5 : pd 5 = nI q5) (hq36 : q5 ≤ 36) (hN : nowC mm F (R 5)) (h10 : R 5 10 = nI ci) (h11 : R 5 11 = nI it) (hf11 : F 11 = nI sg) (hsg : sg + it = mm) (e1 : eqP nP uf (rMonP (tOf sd fn) st me (cOf pd) (wb (mm - sg)) q2 ck q5 (mm - sg) w mm F g0)) (hg0 : ∀ j, j < 6 → g0 j = 0) (e2 : ∀ j, j < 6 → us j = rMonG (tOf sd fn) st (cOf pd) (wb (mm - sg)) q2 ck w mm F g0 j) (e3 : uf 11 = F 11) : nowC (mm + 1) uf (aM1 R w mm 5) ∧ (aM1 R w mm 5 10 = nI ci ∨ aM1 R w mm 5 10 = -1) ∧ ∀ j, j < 6 → us j = aM1 R w mm (200 + mm) j := by
  have hm := hok.2.2.1
  have hw := hok.1
  have hn := hok.2.1
  obtain ⟨-, -, hq, hb, hB⟩ := hok.2.2.2.2.2.2.2.1 ci hcn
  obtain ⟨c0, c1, c2, c3, c4, c5, c6, -⟩ := hcon
  have hlt := now_lt hok h10 h11 hcn (c5.symm.trans hq5) hq36 (by omega)
  have es : mm - sg = it := by omega
  have ew : wb it = R (20 + ci) it := c6 it (by omega)
  rw [es, ew] at e1 e2
  have hd := hB it (by omega)
  have cg := cg_monP (P := nP) (T := tOf sd fn) (T2 := R 2) (R3 := st) (S3 := R 3) (R4 := me) (S4 := R 4) (C := cOf pd) (C2 := R (10 + ci)) (f := F) (F := R 5) (g := g0) (G := fun _ => 0) (ck := ck) (q5 := q5) (it := it) (mm := mm) nP_in hd hw hq9 hdat.1 (fun k hk => (hdat.2 k hk).1) (fun k hk => (hdat.2 k hk).2) c0 c1 c4 hN.1 hg0
  have eA : aM1 R w mm 5 = rMonP (R 2) (R 3) (R 4) (R (10 + ci)) (R (20 + ci) it) q2 ck q5 it w mm (R 5) (fun _ => 0) := by
    show (if (5 : Nat) = 5 then aMon R w mm else _) = _
    rw [if_pos rfl]
    unfold aMon
    rw [h10, if_neg (nI_nm1 (by omega)), toN_I (by omega), h11, toN_I (by omega), ← c2, hq2, toN_I (by omega), ← c3, hck, toN_I (by omega), ← c5, hq5, toN_I (by omega)]
  have eG : aM1 R w mm (200 + mm) = rMonG (R 2) (R 3) (R (10 + ci)) (R (20 + ci) it) q2 ck w mm (R 5) (fun _ => 0) := by
    unfold aM1
    rw [if_neg (by omega), if_neg (by omega), if_pos rfl]
    unfold aMonG
    rw [h10, if_neg (nI_nm1 (by omega)), toN_I (by omega), h11, toN_I (by omega), ← c2, hq2, toN_I (by omega), ← c3, hck, toN_I (by omega)]
  rw [eA, eG]
  have hnow := mp_now (T := R 2) (R3 := R 3) (R4 := R 4) (C := R (10 + ci)) (q := q2) (ck := ck) (mm := mm) (g := fun _ => 0) hd hw h10 h11 (by omega) hlt
  refine ⟨⟨fun i hi => (e1 i hi).trans (cg.1 i hi), ?_⟩, hnow.elim (fun h => Or.inr h.1) (fun h => Or.inl h.1), fun j hj => (e2 j hj).trans (cg.2 j hj)⟩
  rcases hnow with h | h
  · exact Or.inl h
  · exact Or.inr ⟨fun h9 => nI_nm1 (by omega) (h.1.symm.trans h9), it + 1, sg, h.2.1, e3.trans hf11, by omega⟩
theorem mo_no (hok : okA w nt mm R) (hdat : datC w sd fn st me R) (hN : nowC mm F (R 5)) (h10 : R 5 10 = -1) (e1 : uf = psT sd st me w (taxF sd F)) (e2 : us = flF (fun _ => 0) sh 6) : nowC (mm + 1) uf (aM1 R w mm 5) ∧ aM1 R w mm 5 10 = -1 ∧ ∀ j, j < 6 → us j = aM1 R w mm (200 + mm) j := by
  have hw := hok.1
  have eA : aM1 R w mm 5 = rMonN (R 2) (R 3) (R 4) w mm (R 5) := by
    show (if (5 : Nat) = 5 then aMon R w mm else _) = _
    rw [if_pos rfl]
    unfold aMon
    rw [if_pos h10]
  have eG : aM1 R w mm (200 + mm) = fun _ => 0 := by
    unfold aM1
    rw [if_neg (by omega), if_neg (by omega), if_pos rfl]
    unfold aMonG
    rw [if_pos h10]
  have hbF : bdF w st F := bdF_cg hw hN.1 (fun k hk => (hdat.2 k hk).1) hok.2.2.2.2.2.1
  have hT := bdT_cg hdat.1 hok.2.2.2.1
  have e9 : uf = rTail (tOf sd fn) st me w (rTax (tOf sd fn) F) := by
    rw [e1]
    show psT sd st me w (rTax (tOf sd fn) F) = _
    exact tail_eq hT (bd_tax (T := tOf sd fn) hT hbF).2.2.1
  have cg := cg_monN (P := nP) (T := tOf sd fn) (T2 := R 2) (R3 := st) (S3 := R 3) (R4 := me) (S4 := R 4) (f := F) (F := R 5) (mm := mm) nP_in hdat.1 (fun k hk => (hdat.2 k hk).1) (fun k hk => (hdat.2 k hk).2) hw hN.1
  have h10' : aM1 R w mm 5 10 = -1 := by
    rw [eA]
    unfold rMonN
    rw [upd_n (by decide), (mn_now hw).1]
    exact h10
  have h11' : aM1 R w mm 5 11 = -1 := by
    rw [eA]
    unfold rMonN
    rw [upd_n (by decide), (mn_now hw).2.1]
    exact (hN.2.resolve_right (fun h9 => h9.1 h10)).2
  refine ⟨⟨fun i hi => ?_, Or.inl ⟨h10', h11'⟩⟩, h10', fun j hj => ?_⟩
  · rw [eA, ← cg i hi, e9]
    unfold rMonN
    rw [upd_n (show i ≠ 24 by have := hi.1; omega)]
  · rw [eG, e2]
    unfold flF
    rw [if_pos hj]
theorem ln_m1 {ln : Nat → Int32} (hL : lnC ln mm R) (hN : nowC mm F (R 5)) (hu : ∀ j, j < 6 → us j = aM1 R w mm (200 + mm) j) (hm : mm < 120) : lnC (va_cpy us (va_cpy F ln 0 (mm * 30) 24) 0 (mm * 30 + 24) 6) (mm + 1) (aM1 R w mm) := by
  intro t ht
  by_cases e : t = mm
  · subst e
    have e40 : aM1 R w t (40 + t) = R 5 := by unfold aM1; rw [if_neg (by omega), if_pos rfl]
    have ea : ∀ i, i < 24 → va_cpy us (va_cpy F ln 0 (t * 30) 24) 0 (t * 30 + 24) 6 (t * 30 + i) = F i := by
      intro i hi
      rw [pk_cpy_out (by omega), pk_cpy_in (by omega) (by omega), show 0 + (t * 30 + i - t * 30) = i by omega]
    refine ⟨?_, fun j hj => ?_⟩
    · rw [e40]
      refine ⟨fun i hi => (ea i hi.1).trans (hN.1 i hi), ?_⟩
      rcases hN.2 with h | ⟨h0, it, sg, h1, h2, h3⟩
      · exact Or.inl h
      · exact Or.inr ⟨h0, it, sg, h1, (ea 11 (by decide)).trans h2, h3⟩
    · rw [pk_cpy_in (by omega) (by omega), show 0 + (t * 30 + 24 + j - (t * 30 + 24)) = j by omega]
      exact hu j hj
  · have e40 : aM1 R w mm (40 + t) = R (40 + t) := by unfold aM1; rw [if_neg (by omega), if_neg (by omega), if_neg (by omega)]
    have e200 : aM1 R w mm (200 + t) = R (200 + t) := by unfold aM1; rw [if_neg (by omega), if_neg (by omega), if_neg (by omega)]
    have ea : ∀ i, i < 30 → va_cpy us (va_cpy F ln 0 (mm * 30) 24) 0 (mm * 30 + 24) 6 (t * 30 + i) = ln (t * 30 + i) := by
      intro i hi
      rw [pk_cpy_out (by omega), pk_cpy_out (by omega)]
    obtain ⟨⟨a1, a2⟩, a3⟩ := hL t (by omega)
    rw [e40, e200]
    refine ⟨⟨fun i hi => (ea i (by have := hi.1; omega)).trans (a1 i hi), ?_⟩, fun j hj => ?_⟩
    · rcases a2 with h | ⟨h0, it, sg, h1, h2, h3⟩
      · exact Or.inl h
      · exact Or.inr ⟨h0, it, sg, h1, (ea 11 (by decide)).trans h2, h3⟩
    · rw [show t * 30 + 24 + j = t * 30 + (24 + j) by omega, ea (24 + j) (by omega), ← show t * 30 + 24 + j = t * 30 + (24 + j) by omega]
      exact a3 j hj
end MC
section M8
variable {R : Rw} {w nt k k9 j ci it mm : Nat} {sd fn st me pd wb : Nat → Int32}
theorem dat_s (h : datC w sd fn st me R) : datC w sd fn st me (aMs R w k j) := by
  unfold datC
  rw [aMs_n (by decide) (by decide), aMs_n (by decide) (by decide), aMs_n (by decide) (by decide)]
  exact h
theorem con_bw {C B : Nat → Int32} (h : conG w C B) (hc : conC pd wb C B) (hi : it < 36) : wb it = -1 ∨ ∃ k, k < w ∧ wb it = nI k := by
  rw [hc.2.2.2.2.2.2.1 it hi]
  exact h.2.2.2.2 it hi
theorem ok_mj (h : okA w nt k9 (aMs R w k j)) (hm : k9 < 120) (e : k9 = k + j) : okA w nt (k9 + 1) (aMs R w k (j + 1)) := by
  subst e
  exact ok_m1 h hm
theorem mo_e {f : Nat → Int32} {m : Nat} (e : k9 = k + j) (h : nowC m f (aM1 (aMs R w k j) w k9 5)) : nowC m f (aMs R w k (j + 1) 5) := by
  subst e
  exact h
theorem mo_e10 (e : k9 = k + j) {x : Int32} (h : aM1 (aMs R w k j) w k9 5 10 = x ∨ aM1 (aMs R w k j) w k9 5 10 = -1) : aMs R w k (j + 1) 5 10 = x ∨ aMs R w k (j + 1) 5 10 = -1 := by
  subst e
  exact h
theorem mo_eN (e : k9 = k + j) (h : aM1 (aMs R w k j) w k9 5 10 = -1) : aMs R w k (j + 1) 5 10 = -1 := by
  subst e
  exact h
theorem mo_eL {ln : Nat → Int32} {m : Nat} (e : k9 = k + j) (h : lnC ln m (aM1 (aMs R w k j) w k9)) : lnC ln m (aMs R w k (j + 1)) := by
  subst e
  exact h
end M8
end
section
/-! months, the reference's side -/
def datR (w : Nat) (tl : Nat → Int32) (M : Nat → Nat → Int32) (r2 : Nat → Nat) (R : Rw) : Prop := (∀ i, 0 < i → i < 25 → tl i = R 2 i) ∧ ∀ k, k < w → M (r2 k) 0 = R 3 k ∧ M (r2 k) 1 = R 4 k
def conR (C0 B0 C B : Nat → Int32) : Prop := (∀ i, i < 7 → C0 i = C i) ∧ ∀ m, m < 36 → B0 m = B m
def goR (r5 r6 : Nat → Nat) (M : Nat → Nat → Int32) (mm : Nat) (R : Rw) : Prop := ∀ t, t < mm → (∀ i, i < 24 → M (r5 t) i = R (40 + t) i) ∧ ∀ q, q < 6 → M (r6 t) q = R (200 + t) q
def mP (i : Nat) : Prop := i < 24
theorem mP_in : inP mP := fun _ h1 _ => h1
section RO
variable {tl F f uf : Nat → Int32} {M Mj M1 M2 Mu : Nat → Nat → Int32} {r2 r3 r4 r5 r6 : Nat → Nat} {R : Rw} {w nt mm ci q2 ck q5 it : Nat}
theorem now_it (hok : okA w nt mm R) (h10 : R 5 10 = nI ci) (hcn : ci < nt) (hq5 : R (10 + ci) 5 = nI q5) (hq : q5 ≤ 36) : ∃ it, R 5 11 = nI it ∧ it < q5 ∧ it ≤ mm := by
  obtain ⟨-, hn, -, -, -, -, hN, -, -⟩ := hok
  rcases hN with ⟨a, -⟩ | ⟨c, i2, h1, h2, h3, h4, h5⟩
  · exact absurd (h10.symm.trans a) (nI_nm1 (by omega))
  · have ec : c = ci := nI_j (by omega) (by omega) (h2.symm.trans h10)
    rw [ec, hq5, toN_I (by omega)] at h5
    exact ⟨i2, h3, h5, h4⟩
theorem ro_in (hok : okA w nt mm R) (hm : mm < 120) (hdat : datR w tl M2 r2 R) (hcon : conR (M2 (r3 ci)) (M2 (r4 ci)) (R (10 + ci)) (R (20 + ci))) (hcn : ci < nt) (hq2 : M2 (r3 ci) 2 = nI q2) (hq9 : q2 ≤ 9) (hck : M2 (r3 ci) 3 = nI ck) (hc99 : ck ≤ 99) (hq5 : M2 (r3 ci) 5 = nI q5) (hq36 : q5 ≤ 36) (hN : eqP mP F (R 5)) (h10 : R 5 10 = nI ci) (h11 : R 5 11 = nI it) (hlt : it < q5) (hz : ∀ q, q < 6 → M2 (r6 mm) q = 0)
    (e1 : uf = rMonP tl (fun i => M2 (r2 i) 0) (fun i => M2 (r2 i) 1) (M2 (r3 ci)) (M2 (r4 ci) it) q2 ck q5 it w mm F (M2 (r6 mm))) (e2 : Mu = va_up M2 (r6 mm) (rMonG tl (fun i => M2 (r2 i) 0) (M2 (r3 ci)) (M2 (r4 ci) it) q2 ck w mm F (M2 (r6 mm)))) : eqP mP uf (aM1 R w mm 5) ∧ (aM1 R w mm 5 10 = nI ci ∨ aM1 R w mm 5 10 = -1) ∧ (∀ q, q < 6 → Mu (r6 mm) q = aM1 R w mm (200 + mm) q) ∧ ∀ a, a ≠ r6 mm → Mu a = M2 a := by
  have hw := hok.1
  have hn := hok.2.1
  obtain ⟨-, -, hq, hb, hB⟩ := hok.2.2.2.2.2.2.2.1 ci hcn
  obtain ⟨c0, c6⟩ := hcon
  have ew : M2 (r4 ci) it = R (20 + ci) it := c6 it (by omega)
  rw [ew] at e1 e2
  have hd := hB it (by omega)
  have cg := cg_monP (P := mP) (T := tl) (T2 := R 2) (R3 := fun i => M2 (r2 i) 0) (S3 := R 3) (R4 := fun i => M2 (r2 i) 1) (S4 := R 4) (C := M2 (r3 ci)) (C2 := R (10 + ci)) (f := F) (F := R 5) (g := M2 (r6 mm)) (G := fun _ => 0) (ck := ck) (q5 := q5) (it := it) (mm := mm) mP_in hd hw hq9 hdat.1 (fun k hk => (hdat.2 k hk).1) (fun k hk => (hdat.2 k hk).2) (c0 0 (by decide)) (c0 1 (by decide)) (c0 4 (by decide)) hN hz
  have k2 : R (10 + ci) 2 = nI q2 := (c0 2 (by decide)).symm.trans hq2
  have k3 : R (10 + ci) 3 = nI ck := (c0 3 (by decide)).symm.trans hck
  have k5 : R (10 + ci) 5 = nI q5 := (c0 5 (by decide)).symm.trans hq5
  have eA : aM1 R w mm 5 = rMonP (R 2) (R 3) (R 4) (R (10 + ci)) (R (20 + ci) it) q2 ck q5 it w mm (R 5) (fun _ => 0) := by
    show (if (5 : Nat) = 5 then aMon R w mm else _) = _
    rw [if_pos rfl]
    unfold aMon
    rw [h10, if_neg (nI_nm1 (by omega)), toN_I (by omega), h11, toN_I (by omega), k2, toN_I (by omega), k3, toN_I (by omega), k5, toN_I (by omega)]
  have eG : aM1 R w mm (200 + mm) = rMonG (R 2) (R 3) (R (10 + ci)) (R (20 + ci) it) q2 ck w mm (R 5) (fun _ => 0) := by
    unfold aM1
    rw [if_neg (by omega), if_neg (by omega), if_pos rfl]
    unfold aMonG
    rw [h10, if_neg (nI_nm1 (by omega)), toN_I (by omega), h11, toN_I (by omega), k2, toN_I (by omega), k3, toN_I (by omega)]
  have hnow := mp_now (T := R 2) (R3 := R 3) (R4 := R 4) (C := R (10 + ci)) (q := q2) (ck := ck) (mm := mm) (g := fun _ => 0) hd hw h10 h11 (by omega) hlt
  rw [eA, eG, e1, e2]
  refine ⟨cg.1, hnow.elim (fun h => Or.inr h.1) (fun h => Or.inl h.1), fun q hq => ?_, fun a ha => vupn ha⟩
  rw [vups]
  exact cg.2 q hq
theorem ro_no (hok : okA w nt mm R) (hdat : datR w tl M2 r2 R) (hN : eqP mP F (R 5)) (h10 : R 5 10 = -1) (e1 : uf = rMonN tl (fun i => M2 (r2 i) 0) (fun i => M2 (r2 i) 1) w mm F) (hz : ∀ q, q < 6 → M2 (r6 mm) q = 0) : eqP mP uf (aM1 R w mm 5) ∧ aM1 R w mm 5 10 = -1 ∧ ∀ q, q < 6 → M2 (r6 mm) q = aM1 R w mm (200 + mm) q := by
  have hw := hok.1
  have eA : aM1 R w mm 5 = rMonN (R 2) (R 3) (R 4) w mm (R 5) := by
    show (if (5 : Nat) = 5 then aMon R w mm else _) = _
    rw [if_pos rfl]
    unfold aMon
    rw [if_pos h10]
  have eG : aM1 R w mm (200 + mm) = fun _ => 0 := by
    unfold aM1
    rw [if_neg (by omega), if_neg (by omega), if_pos rfl]
    unfold aMonG
    rw [if_pos h10]
  have cg := cg_monN (P := mP) (T := tl) (T2 := R 2) (R3 := fun i => M2 (r2 i) 0) (S3 := R 3) (R4 := fun i => M2 (r2 i) 1) (S4 := R 4) (f := F) (F := R 5) (mm := mm) mP_in hdat.1 (fun k hk => (hdat.2 k hk).1) (fun k hk => (hdat.2 k hk).2) hw hN
  rw [eA, eG, e1]
  refine ⟨cg, ?_, hz⟩
  unfold rMonN
  rw [upd_n (by decide), (mn_now hw).1]
  exact h10
theorem go_m1 (hg : goR r5 r6 Mj mm R) (hN : eqP mP F (R 5)) (h55 : ∀ a b, a < 121 → b < 121 → r5 a = r5 b → a = b) (h66 : ∀ a b, a < 120 → b < 120 → r6 a = r6 b → a = b) (h56 : ∀ i j, i < 121 → j < 120 → r5 i ≠ r6 j) (hm : mm < 120) (hf : rFill (r5 mm) F Mj M1 25) (hz : rFill (r6 mm) (fun _ => 0) M1 M2 6) (hu : ∀ q, q < 6 → Mu (r6 mm) q = aM1 R w mm (200 + mm) q) (hx : ∀ a, a ≠ r6 mm → Mu a = M2 a) : goR r5 r6 Mu (mm + 1) (aM1 R w mm) := by
  intro t ht
  rw [hx (r5 t) (h56 t mm (by omega) hm), hz.2 (r5 t) (h56 t mm (by omega) hm)]
  by_cases e : t = mm
  · subst e
    have e40 : aM1 R w t (40 + t) = R 5 := by unfold aM1; rw [if_neg (by omega), if_pos rfl]
    rw [e40]
    exact ⟨fun i hi => (hf.1 i (by omega)).trans (hN i hi), hu⟩
  · have e40 : aM1 R w mm (40 + t) = R (40 + t) := by unfold aM1; rw [if_neg (by omega), if_neg (by omega), if_neg (by omega)]
    have e200 : aM1 R w mm (200 + t) = R (200 + t) := by unfold aM1; rw [if_neg (by omega), if_neg (by omega), if_neg (by omega)]
    rw [e40, e200, hf.2 (r5 t) (fun h9 => e (h55 t mm (by omega) (by omega) h9))]
    refine ⟨(hg t (by omega)).1, fun q hq => ?_⟩
    rw [hx (r6 t) (fun h9 => e (h66 t mm (by omega) hm h9)), hz.2 (r6 t) (fun h9 => e (h66 t mm (by omega) hm h9)), hf.2 (r6 t) (fun h9 => h56 mm t (by omega) (by omega) h9.symm)]
    exact (hg t (by omega)).2 q hq
/-- a row that months leave as it is -/
theorem ex_2 {a : Nat} (hmx : mEx2 r5 r6 121 120 M Mj) (hf : rFill (r5 mm) F Mj M1 25) (hz : rFill (r6 mm) (fun _ => 0) M1 M2 6) (hm : mm < 120) (h5 : ∀ i, i < 121 → a ≠ r5 i) (h6 : ∀ i, i < 120 → a ≠ r6 i) : M2 a = M a := (hz.2 a (h6 mm hm)).trans ((hf.2 a (h5 mm (by omega))).trans (hmx a h5 h6))
theorem ex_3 (hmx : mEx2 r5 r6 121 120 M Mj) (hf : rFill (r5 mm) F Mj M1 25) (hz : rFill (r6 mm) (fun _ => 0) M1 M2 6) (hm : mm < 120) (hx : ∀ a, a ≠ r6 mm → Mu a = M2 a) : mEx2 r5 r6 121 120 M Mu := fun a h5 h6 => (hx a (h6 mm hm)).trans (ex_2 hmx hf hz hm h5 h6)
end RO
theorem rMonP_24 {T R3 R4 C f g : Nat → Int32} {due : Int32} {q ck q5 it w mm : Nat} : rMonP T R3 R4 C due q ck q5 it w mm f g 24 = nI (mm + 1) := by
  unfold rMonP rEnd
  split
  · exact upd_s
  · split
    · rw [sg_24, upd_n (by decide), upd_s]
    · rw [upd_n (by decide), upd_s]
/-- the rows of the months gone, and how things stand, within the contracts -/
theorem gOk_m1 {nt mm : Nat} {TQ r5 r6 : Nat → Nat} {F : Nat → Int32} {Mj M1 M2 Mu : Nat → Nat → Int32} (h55 : ∀ a b, a < 121 → b < 121 → r5 a = r5 b → a = b) (h56 : ∀ i j, i < 121 → j < 120 → r5 i ≠ r6 j) (hm : mm < 120) (hg : gOk nt TQ r5 Mj mm) (hf : rFill (r5 mm) F Mj M1 25) (hz : rFill (r6 mm) (fun _ => 0) M1 M2 6) (hx : ∀ a, a ≠ r6 mm → Mu a = M2 a) (hs : sOk nt TQ mm F) : gOk nt TQ r5 Mu (mm + 1) := by
  intro t ht
  rw [hx (r5 t) (h56 t mm (by omega) hm), hz.2 (r5 t) (h56 t mm (by omega) hm)]
  by_cases e : t = mm
  · subst e
    exact sOk_25 hs (fun k hk => hf.1 k hk)
  · rw [hf.2 (r5 t) (fun h9 => e (h55 t mm (by omega) (by omega) h9))]
    exact hg t (by omega)
theorem sOk_A {w nt mm : Nat} {TQ : Nat → Nat} {F : Nat → Int32} {R : Rw} (hok : okA w nt mm R) (hN : eqP mP F (R 5)) (h24 : F 24 = nI mm) (hTR : ∀ c, c < nt → toN (R (10 + c) 5) = TQ c) : sOk nt TQ mm F := by
  obtain ⟨-, -, -, -, -, -, hG, -, -⟩ := hok
  refine ⟨h24, ?_⟩
  have e10 : F 10 = R 5 10 := hN 10 (show 10 < 24 by decide)
  have e11 : F 11 = R 5 11 := hN 11 (show 11 < 24 by decide)
  rcases hG with ⟨a, -⟩ | ⟨c, it, h1, h2, h3, -, h5⟩
  · exact Or.inl (e10.trans a)
  · exact Or.inr ⟨c, it, h1, e10.trans h2, e11.trans h3, by rw [← hTR c h1]; exact h5⟩
theorem aMs_c {R : Rw} {w nt mm j : Nat} {TQ : Nat → Nat} (hn : nt ≤ 6) (hTR : ∀ c, c < nt → toN (R (10 + c) 5) = TQ c) : ∀ c, c < nt → toN (aMs R w mm j (10 + c) 5) = TQ c := fun c hc => by
  rw [aMs_n (by omega) (by omega)]
  exact hTR c hc
end
section
set_option maxHeartbeats 4000000 in
set_option maxRecDepth 100000 in
theorem c_X4_isPaid1 (l : Launch) (g : he_G) (h0 : Nat) (q0 : Nat) (q1 : Nat) (mo : Int32) (f : Nat → Int32) (t0 : Nat) (t1 : Nat) (t2 : Nat) (pw : Int32) (pd : Nat → Int32) (hpay : payF pd mo ≤ f 0) : he_I l yX4_isPaid wsX4_isPaid 2 42 0 0 g [.ref h0, .ref t0] [(oX4 h0 q0 q1 mo), (aI g q0 24 f), (oX5 t0 t1 t2 pw), (aI g t1 6 pd)] (fun (r : Int32) (u : Unit) => r = 1) (fun (u : Unit) => [(oX4 h0 q0 q1 mo), (aI g q0 24 (mvF f 0 1 (payF pd mo))), (oX5 t0 t1 t2 pw), (aI g t1 6 pd)]) := by
  refine he_begin (l := l) (g := g) (y := yX4_isPaid) (wl := wsX4_isPaid) (fr := 2) (lo := 42) (mc := 0) (ms := 0) (av := [.ref h0, .ref t0]) (ws := [(oX4 h0 q0 q1 mo), (aI g q0 24 f), (oX5 t0 t1 t2 pw), (aI g t1 6 pd)]) (cc := cX4_isPaid) (maxL := 3) (ret := (some .boolean)) (fun A => va_Qi (fun (r : Int32) (u : Unit) => r = 1) (fun u t => he_post g A ((fun (u : Unit) => [(oX4 h0 q0 q1 mo), (aI g q0 24 (mvF f 0 1 (payF pd mo))), (oX5 t0 t1 t2 pw), (aI g t1 6 pd)]) u) t) A) (by decide) rfl (Nat.le_of_ble_eq_true rfl) ?_
  intro p e s m args below meth c A ls H locs Q hQ hB
  obtain ⟨hx, hb, hr, hml, hown, hts, hlk, hin, hP, hK, hD, hS, hA, hE, hl⟩ := hB
  have hl : lv_has ls 3 [(0, .ref h0), (1, .ref t0)] := hl
  have f18 := hts (.fieldLink RX4 18 "HiredEnemy$Course" "month" "I") (iwoX4_isPaid (k := 0) rfl)
  have inX4 : ∀ w ∈ wsX40, w ∈ wsX4_isPaid := innX4_isPaid_X4
  have f9 := hts (.fieldLink RX4 9 "HiredEnemy$Course" "now" "[I") (iwoX4_isPaid (k := 1) rfl)
  refine lv_aload_n hx hb dX4_isPaid_0 rfl (lv_at hl 1 rfl) ?_
  refine lv_aload_n hx hb dX4_isPaid_1 rfl (lv_at hl 0 rfl) ?_
  refine va_get (v := .int mo) (T := TX4) (N := 3) hx hb hts inX4 hown hK hP 0 rfl rfl 2 (by decide) f18 (fun _ h9 => h9) rfl dX4_isPaid_2 ?_
  refine he_ci (wc := [(oX5 t0 t1 t2 pw), (aI g t1 6 pd)]) (wr := [(oX4 h0 q0 q1 mo), (aI g q0 24 f)]) (va_runV (As := [.int mo]) (rest := []) ⟨hx, hb, hml, hown, hts⟩ (c_X5_payIn l g t0 t1 t2 pw pd mo H.size) (cwV 1 hts gX4_isPaid_X5_payIn rfl rfl rfl (by decide +kernel) ⟨Nat.le_of_ble_eq_true rfl, Nat.le_of_ble_eq_true rfl⟩) (he_preV (wc := [(oX5 t0 t1 t2 pw), (aI g t1 6 pd)]) hK hP hD hS hA hE [2, 3] rfl rfl 2 rfl rfl) rfl rfl hl.1 rfl (lv_room (Nat.le_of_ble_eq_true rfl)) dX4_isPaid_5 ⟨(Nat.le_of_ble_eq_true rfl), (Nat.le_of_ble_eq_true rfl)⟩) hP hD hS hA [2, 3] [0, 1] rfl rfl rfl (by decide) (fun r_1 u_2 H locs h_3 hP hD hS => ?_)
  subst h_3
  have hP : va_P g.1 vwCl [(oX4 h0 q0 q1 mo), (aI g q0 24 f), (oX5 t0 t1 t2 pw), (aI g t1 6 pd)] H := hP
  have hD : va_D A [(oX4 h0 q0 q1 mo), (aI g q0 24 f), (oX5 t0 t1 t2 pw), (aI g t1 6 pd)] := hD
  refine lv_istore_n (lv' := [(2, .int (payF pd mo)), (0, .ref h0), (1, .ref t0)]) hx hb dX4_isPaid_8 rfl hl (by decide) rfl (fun ls hl => ?_)
  refine lv_aload_n hx hb dX4_isPaid_9 rfl (lv_at hl 1 rfl) ?_
  refine va_get (v := .ref q0) (T := TX4) (N := 3) hx hb hts inX4 hown hK hP 0 rfl rfl 0 (by decide) f9 (fun _ h9 => h9) rfl dX4_isPaid_10 ?_
  refine lv_iconst (v := 0) hx hb dX4_isPaid_13 (by decide) ?_
  refine he_iald hx hb hK hP 1 rfl (0) (by decide) (by decide) (by first | decide | assumption) (f 0) rfl dX4_isPaid_14 ?_
  refine lv_iload_n hx hb dX4_isPaid_15 rfl (lv_at hl 0 rfl) ?_
  refine lv_icmp_ge (tgt := 40) hx hb dX4_isPaid_16 (by decide) (fun c_4 => ?_) (fun c_4 => ?_)
  · refine lv_aload_n hx hb dX4_isPaid_40 rfl (lv_at hl 1 rfl) ?_
    refine lv_iconst (v := 0) hx hb dX4_isPaid_41 (by decide) ?_
    refine lv_iconst (v := 1) hx hb dX4_isPaid_42 (by decide) ?_
    refine lv_iload_n hx hb dX4_isPaid_43 rfl (lv_at hl 0 rfl) ?_
    refine he_cv (wc := [(oX4 h0 q0 q1 mo), (aI g q0 24 f)]) (wr := [(oX5 t0 t1 t2 pw), (aI g t1 6 pd)]) (va_runV (As := [.int 0, .int 1, .int (payF pd mo)]) (rest := []) ⟨hx, hb, hml, hown, hts⟩ (c_X4_move l g h0 q0 q1 mo f 0 1 (payF pd mo) (by first | assumption | decide | omega) (by first | assumption | decide | omega) H.size) (cwV 3 hts gX4_isPaid_X4_move rfl rfl rfl (by decide +kernel) ⟨Nat.le_of_ble_eq_true rfl, Nat.le_of_ble_eq_true rfl⟩) (he_preV (wc := [(oX4 h0 q0 q1 mo), (aI g q0 24 f)]) hK hP hD hS hA hE [0, 1] rfl rfl 0 rfl rfl) rfl rfl hl.1 rfl (lv_room (Nat.le_of_ble_eq_true rfl)) dX4_isPaid_44 ⟨(Nat.le_of_ble_eq_true rfl), (Nat.le_of_ble_eq_true rfl)⟩) hP hD hS hA [0, 1] [2, 3] rfl rfl rfl (by decide) (fun u_6 H locs h_7 hP hD hS => ?_)
    have hP : va_P g.1 vwCl [(oX5 t0 t1 t2 pw), (aI g t1 6 pd), (oX4 h0 q0 q1 mo), (aI g q0 24 (mvF f 0 1 (payF pd mo)))] H := hP
    have hD : va_D A [(oX5 t0 t1 t2 pw), (aI g t1 6 pd), (oX4 h0 q0 q1 mo), (aI g q0 24 (mvF f 0 1 (payF pd mo)))] := hD
    refine lv_iconst (v := 1) hx hb dX4_isPaid_47 (by decide) ?_
    have hP := hP.sub (ws' := [(oX4 h0 q0 q1 mo), (aI g q0 24 (mvF f 0 1 (payF pd mo))), (oX5 t0 t1 t2 pw), (aI g t1 6 pd)]) [2, 3, 0, 1] rfl
    have hD := hD.sub (ws' := [(oX4 h0 q0 q1 mo), (aI g q0 24 (mvF f 0 1 (payF pd mo))), (oX5 t0 t1 t2 pw), (aI g t1 6 pd)]) [2, 3, 0, 1] (by decide) rfl
    exact he_rz hQ hx hb hr hlk hP hD hS dX4_isPaid_48 (Nat.le_of_ble_eq_true rfl) (Nat.le_of_ble_eq_true rfl) rfl (()) (rfl) (rfl)
  · exact absurd hpay c_4
set_option maxHeartbeats 4000000 in
set_option maxRecDepth 100000 in
theorem c_X4_isPaid0 (l : Launch) (g : he_G) (h0 : Nat) (q0 : Nat) (q1 : Nat) (mo : Int32) (f : Nat → Int32) (t0 : Nat) (t1 : Nat) (t2 : Nat) (pw : Int32) (pd : Nat → Int32) (hpay : ¬ payF pd mo ≤ f 0) : he_I l yX4_isPaid wsX4_isPaid 2 42 0 0 g [.ref h0, .ref t0] [(oX4 h0 q0 q1 mo), (aI g q0 24 f), (oX5 t0 t1 t2 pw), (aI g t1 6 pd)] (fun (r : Int32) (u : Unit) => r = 0) (fun (u : Unit) => [(oX4 h0 q0 q1 mo), (aI g q0 24 (dfF f)), (oX5 t0 t1 t2 pw), (aI g t1 6 pd)]) := by
  refine he_begin (l := l) (g := g) (y := yX4_isPaid) (wl := wsX4_isPaid) (fr := 2) (lo := 42) (mc := 0) (ms := 0) (av := [.ref h0, .ref t0]) (ws := [(oX4 h0 q0 q1 mo), (aI g q0 24 f), (oX5 t0 t1 t2 pw), (aI g t1 6 pd)]) (cc := cX4_isPaid) (maxL := 3) (ret := (some .boolean)) (fun A => va_Qi (fun (r : Int32) (u : Unit) => r = 0) (fun u t => he_post g A ((fun (u : Unit) => [(oX4 h0 q0 q1 mo), (aI g q0 24 (dfF f)), (oX5 t0 t1 t2 pw), (aI g t1 6 pd)]) u) t) A) (by decide) rfl (Nat.le_of_ble_eq_true rfl) ?_
  intro p e s m args below meth c A ls H locs Q hQ hB
  obtain ⟨hx, hb, hr, hml, hown, hts, hlk, hin, hP, hK, hD, hS, hA, hE, hl⟩ := hB
  have hl : lv_has ls 3 [(0, .ref h0), (1, .ref t0)] := hl
  have f18 := hts (.fieldLink RX4 18 "HiredEnemy$Course" "month" "I") (iwoX4_isPaid (k := 0) rfl)
  have inX4 : ∀ w ∈ wsX40, w ∈ wsX4_isPaid := innX4_isPaid_X4
  have f9 := hts (.fieldLink RX4 9 "HiredEnemy$Course" "now" "[I") (iwoX4_isPaid (k := 1) rfl)
  refine lv_aload_n hx hb dX4_isPaid_0 rfl (lv_at hl 1 rfl) ?_
  refine lv_aload_n hx hb dX4_isPaid_1 rfl (lv_at hl 0 rfl) ?_
  refine va_get (v := .int mo) (T := TX4) (N := 3) hx hb hts inX4 hown hK hP 0 rfl rfl 2 (by decide) f18 (fun _ h9 => h9) rfl dX4_isPaid_2 ?_
  refine he_ci (wc := [(oX5 t0 t1 t2 pw), (aI g t1 6 pd)]) (wr := [(oX4 h0 q0 q1 mo), (aI g q0 24 f)]) (va_runV (As := [.int mo]) (rest := []) ⟨hx, hb, hml, hown, hts⟩ (c_X5_payIn l g t0 t1 t2 pw pd mo H.size) (cwV 1 hts gX4_isPaid_X5_payIn rfl rfl rfl (by decide +kernel) ⟨Nat.le_of_ble_eq_true rfl, Nat.le_of_ble_eq_true rfl⟩) (he_preV (wc := [(oX5 t0 t1 t2 pw), (aI g t1 6 pd)]) hK hP hD hS hA hE [2, 3] rfl rfl 2 rfl rfl) rfl rfl hl.1 rfl (lv_room (Nat.le_of_ble_eq_true rfl)) dX4_isPaid_5 ⟨(Nat.le_of_ble_eq_true rfl), (Nat.le_of_ble_eq_true rfl)⟩) hP hD hS hA [2, 3] [0, 1] rfl rfl rfl (by decide) (fun r_1 u_2 H locs h_3 hP hD hS => ?_)
  subst h_3
  have hP : va_P g.1 vwCl [(oX4 h0 q0 q1 mo), (aI g q0 24 f), (oX5 t0 t1 t2 pw), (aI g t1 6 pd)] H := hP
  have hD : va_D A [(oX4 h0 q0 q1 mo), (aI g q0 24 f), (oX5 t0 t1 t2 pw), (aI g t1 6 pd)] := hD
  refine lv_istore_n (lv' := [(2, .int (payF pd mo)), (0, .ref h0), (1, .ref t0)]) hx hb dX4_isPaid_8 rfl hl (by decide) rfl (fun ls hl => ?_)
  refine lv_aload_n hx hb dX4_isPaid_9 rfl (lv_at hl 1 rfl) ?_
  refine va_get (v := .ref q0) (T := TX4) (N := 3) hx hb hts inX4 hown hK hP 0 rfl rfl 0 (by decide) f9 (fun _ h9 => h9) rfl dX4_isPaid_10 ?_
  refine lv_iconst (v := 0) hx hb dX4_isPaid_13 (by decide) ?_
  refine he_iald hx hb hK hP 1 rfl (0) (by decide) (by decide) (by first | decide | assumption) (f 0) rfl dX4_isPaid_14 ?_
  refine lv_iload_n hx hb dX4_isPaid_15 rfl (lv_at hl 0 rfl) ?_
  refine lv_icmp_ge (tgt := 40) hx hb dX4_isPaid_16 (by decide) (fun c_4 => ?_) (fun c_4 => ?_)
  · exact absurd c_4 hpay
  · refine lv_aload_n hx hb dX4_isPaid_19 rfl (lv_at hl 1 rfl) ?_
    refine va_get (v := .ref q0) (T := TX4) (N := 3) hx hb hts inX4 hown hK hP 0 rfl rfl 0 (by decide) f9 (fun _ h9 => h9) rfl dX4_isPaid_20 ?_
    refine lv_bipush (v := 8) hx hb dX4_isPaid_23 (by decide) ?_
    refine lv_dup2_11 hx hb dX4_isPaid_25 rfl rfl ?_
    refine he_iald hx hb hK hP 1 rfl (8) (by decide) (by decide) (by first | decide | assumption) (f 8) rfl dX4_isPaid_26 ?_
    refine lv_iconst (v := 1) hx hb dX4_isPaid_27 (by decide) ?_
    refine lv_iadd hx hb dX4_isPaid_28 ?_
    refine he_iast hx hb hK hP hD hS 1 rfl (8) (by decide) (by decide) (by first | decide | assumption) dX4_isPaid_29 (fun H locs hP hD hS => ?_)
    have hP : va_P g.1 vwCl [(oX4 h0 q0 q1 mo), (aI g q0 24 (upd f 8 ((f 8) + 1))), (oX5 t0 t1 t2 pw), (aI g t1 6 pd)] H := hP
    have hD : va_D A [(oX4 h0 q0 q1 mo), (aI g q0 24 (upd f 8 ((f 8) + 1))), (oX5 t0 t1 t2 pw), (aI g t1 6 pd)] := hD
    refine lv_aload_n hx hb dX4_isPaid_30 rfl (lv_at hl 1 rfl) ?_
    refine va_get (v := .ref q0) (T := TX4) (N := 3) hx hb hts inX4 hown hK hP 0 rfl rfl 0 (by decide) f9 (fun _ h9 => h9) rfl dX4_isPaid_31 ?_
    refine lv_bipush (v := 10) hx hb dX4_isPaid_34 (by decide) ?_
    refine lv_iconst (v := (-1)) hx hb dX4_isPaid_36 (by decide) ?_
    refine he_iast hx hb hK hP hD hS 1 rfl (10) (by decide) (by decide) (by first | decide | assumption) dX4_isPaid_37 (fun H locs hP hD hS => ?_)
    have hP : va_P g.1 vwCl [(oX4 h0 q0 q1 mo), (aI g q0 24 (upd (upd f 8 ((f 8) + 1)) 10 (-1))), (oX5 t0 t1 t2 pw), (aI g t1 6 pd)] H := hP
    have hD : va_D A [(oX4 h0 q0 q1 mo), (aI g q0 24 (upd (upd f 8 ((f 8) + 1)) 10 (-1))), (oX5 t0 t1 t2 pw), (aI g t1 6 pd)] := hD
    refine lv_iconst (v := 0) hx hb dX4_isPaid_38 (by decide) ?_
    exact he_rz hQ hx hb hr hlk hP hD hS dX4_isPaid_39 (Nat.le_of_ble_eq_true rfl) (Nat.le_of_ble_eq_true rfl) rfl (()) (rfl) (rfl)
set_option maxHeartbeats 4000000 in
set_option maxRecDepth 100000 in
theorem c_X4_pass0 (l : Launch) (g : he_G) (h0 : Nat) (q0 : Nat) (q1 : Nat) (mo : Int32) (f : Nat → Int32) (sh : Nat → Int32) (p0 : Nat) (p1 : Nat) (p2 : Nat) (p3 : Nat) (p4 : Nat) (w : Nat) (sd : Nat → Int32) (st : Nat → Int32) (me : Nat → Int32) (hw6 : w ≤ 6) : he_V l yX4_pass wsX4_pass 3 61 0 0 g [.ref h0, .ref p0, .null] [(oX4 h0 q0 q1 mo), (aI g q0 24 f), (aI g q1 6 sh), (oX6 p0 p1 p2 p3 p4 (nI w)), (aI g p1 24 sd), (aI g p3 6 st), (aI g p4 6 me)] (fun (u : Unit) => True) (fun (u : Unit) => [(oX4 h0 q0 q1 (mo + 1)), (aI g q0 24 (psT sd st me w (taxF sd f))), (aI g q1 6 (flF (fun _ => 0) sh 6)), (oX6 p0 p1 p2 p3 p4 (nI w)), (aI g p1 24 sd), (aI g p3 6 st), (aI g p4 6 me)]) := by
  refine he_begin (l := l) (g := g) (y := yX4_pass) (wl := wsX4_pass) (fr := 3) (lo := 61) (mc := 0) (ms := 0) (av := [.ref h0, .ref p0, .null]) (ws := [(oX4 h0 q0 q1 mo), (aI g q0 24 f), (aI g q1 6 sh), (oX6 p0 p1 p2 p3 p4 (nI w)), (aI g p1 24 sd), (aI g p3 6 st), (aI g p4 6 me)]) (cc := cX4_pass) (maxL := 3) (ret := none) (fun A => va_Qv (fun (u : Unit) => True) (fun u t => he_post g A ((fun (u : Unit) => [(oX4 h0 q0 q1 (mo + 1)), (aI g q0 24 (psT sd st me w (taxF sd f))), (aI g q1 6 (flF (fun _ => 0) sh 6)), (oX6 p0 p1 p2 p3 p4 (nI w)), (aI g p1 24 sd), (aI g p3 6 st), (aI g p4 6 me)]) u) t) A) (by decide) rfl (Nat.le_of_ble_eq_true rfl) ?_
  intro p e s m args below meth c A ls H locs Q hQ hB
  obtain ⟨hx, hb, hr, hml, hown, hts, hlk, hin, hP, hK, hD, hS, hA, hE, hl⟩ := hB
  have hl : lv_has ls 3 [(0, .ref h0), (1, .ref p0), (2, .null)] := hl
  have f15 := hts (.fieldLink RX4 15 "HiredEnemy$Course" "shot" "[I") (iwoX4_pass (k := 0) rfl)
  have inX4 : ∀ w ∈ wsX40, w ∈ wsX4_pass := innX4_pass_X4
  have f9 := hts (.fieldLink RX4 9 "HiredEnemy$Course" "now" "[I") (iwoX4_pass (k := 1) rfl)
  have f28 := hts (.fieldLink RX4 28 "HiredEnemy$Plan" "said" "[I") (iwoX4_pass (k := 2) rfl)
  have inX6 : ∀ w ∈ wsX60, w ∈ wsX4_pass := innX4_pass_X6
  have ml68 := hts (.methodLink RX4 68 Lib.Math.max.name) (iwoX4_pass (k := 4) rfl)
  have msmax := hts (.static Lib.Math.max.name) (iwoX4_pass (k := 5) rfl)
  have mi := hts (.initialized "java/lang/Math") (iwoX4_pass (k := 6) rfl)
  have mcmax := hts (.code Lib.Math.max.name Lib.Math.max.code 2 (some .int)) (iwoX4_pass (k := 7) rfl)
  have f18 := hts (.fieldLink RX4 18 "HiredEnemy$Course" "month" "I") (iwoX4_pass (k := 8) rfl)
  refine lv_aload_n hx hb dX4_pass_0 rfl (lv_at hl 0 rfl) ?_
  refine va_get (v := .ref q1) (T := TX4) (N := 3) hx hb hts inX4 hown hK hP 0 rfl rfl 1 (by decide) f15 (fun _ h9 => h9) rfl dX4_pass_1 ?_
  refine lv_iconst (v := 0) hx hb dX4_pass_4 (by decide) ?_
  refine he_cv (wc := [(aI g q1 6 sh)]) (wr := [(oX4 h0 q0 q1 mo), (aI g q0 24 f), (oX6 p0 p1 p2 p3 p4 (nI w)), (aI g p1 24 sd), (aI g p3 6 st), (aI g p4 6 me)]) (va_runS (As := [.ref q1, .int 0]) (rest := []) ⟨hx, hb, hml, hown, hts⟩ (c_J7_fill_53178 l g q1 6 sh 0 (by first | assumption | decide | omega) H.size) (va_cwS 2 hts gX4_pass_J7_fill_53178 rfl rfl rfl (by decide +kernel) ⟨Nat.le_of_ble_eq_true rfl, Nat.le_of_ble_eq_true rfl⟩) (he_preS (wc := [(aI g q1 6 sh)]) hK hP hD hS hA hE [2] rfl rfl) rfl rfl hl.1 rfl (lv_room (Nat.le_of_ble_eq_true rfl)) dX4_pass_5 ⟨(Nat.le_of_ble_eq_true rfl), (Nat.le_of_ble_eq_true rfl)⟩) hP hD hS hA [2] [0, 1, 3, 4, 5, 6] rfl rfl rfl (by decide) (fun u_2 H locs h_3 hP hD hS => ?_)
  have hP : va_P g.1 vwCl [(oX4 h0 q0 q1 mo), (aI g q0 24 f), (oX6 p0 p1 p2 p3 p4 (nI w)), (aI g p1 24 sd), (aI g p3 6 st), (aI g p4 6 me), (aI g q1 6 (flF (fun _ => 0) sh 6))] H := hP
  have hD : va_D A [(oX4 h0 q0 q1 mo), (aI g q0 24 f), (oX6 p0 p1 p2 p3 p4 (nI w)), (aI g p1 24 sd), (aI g p3 6 st), (aI g p4 6 me), (aI g q1 6 (flF (fun _ => 0) sh 6))] := hD
  refine lv_aload_n hx hb dX4_pass_8 rfl (lv_at hl 0 rfl) ?_
  refine lv_iconst (v := 2) hx hb dX4_pass_9 (by decide) ?_
  refine lv_iconst (v := 0) hx hb dX4_pass_10 (by decide) ?_
  refine lv_aload_n hx hb dX4_pass_11 rfl (lv_at hl 0 rfl) ?_
  refine va_get (v := .ref q0) (T := TX4) (N := 3) hx hb hts inX4 hown hK hP 0 rfl rfl 0 (by decide) f9 (fun _ h9 => h9) rfl dX4_pass_12 ?_
  refine lv_iconst (v := 3) hx hb dX4_pass_15 (by decide) ?_
  refine he_iald hx hb hK hP 1 rfl (3) (by decide) (by decide) (by first | decide | assumption) (f 3) rfl dX4_pass_16 ?_
  refine lv_aload_n hx hb dX4_pass_17 rfl (lv_at hl 1 rfl) ?_
  refine va_get (v := .ref p1) (T := TX6) (N := 5) hx hb hts inX6 hown hK hP 2 rfl rfl 0 (by decide) f28 (fun _ h9 => h9) rfl dX4_pass_18 ?_
  refine lv_bipush (v := 10) hx hb dX4_pass_21 (by decide) ?_
  refine he_iald hx hb hK hP 3 rfl (10) (by decide) (by decide) (by first | decide | assumption) (sd 10) rfl dX4_pass_23 ?_
  refine lv_imul hx hb dX4_pass_24 ?_
  refine lv_aload_n hx hb dX4_pass_25 rfl (lv_at hl 0 rfl) ?_
  refine va_get (v := .ref q0) (T := TX4) (N := 3) hx hb hts inX4 hown hK hP 0 rfl rfl 0 (by decide) f9 (fun _ h9 => h9) rfl dX4_pass_26 ?_
  refine lv_iconst (v := 5) hx hb dX4_pass_29 (by decide) ?_
  refine he_iald hx hb hK hP 1 rfl (5) (by decide) (by decide) (by first | decide | assumption) (f 5) rfl dX4_pass_30 ?_
  refine lv_imul hx hb dX4_pass_31 ?_
  refine lv_sipush (v := 10000) hx hb dX4_pass_32 (by decide) ?_
  refine lv_idiv hx hb dX4_pass_35 (by decide) ?_
  refine he_cv (wc := [(oX4 h0 q0 q1 mo), (aI g q0 24 f)]) (wr := [(oX6 p0 p1 p2 p3 p4 (nI w)), (aI g p1 24 sd), (aI g p3 6 st), (aI g p4 6 me), (aI g q1 6 (flF (fun _ => 0) sh 6))]) (va_runV (As := [.int 2, .int 0, .int ((((f 3) * (sd 10)) * (f 5)) / 10000)]) (rest := []) ⟨hx, hb, hml, hown, hts⟩ (c_X4_move l g h0 q0 q1 mo f 2 0 ((((f 3) * (sd 10)) * (f 5)) / 10000) (by first | assumption | decide | omega) (by first | assumption | decide | omega) H.size) (cwV 3 hts gX4_pass_X4_move rfl rfl rfl (by decide +kernel) ⟨Nat.le_of_ble_eq_true rfl, Nat.le_of_ble_eq_true rfl⟩) (he_preV (wc := [(oX4 h0 q0 q1 mo), (aI g q0 24 f)]) hK hP hD hS hA hE [0, 1] rfl rfl 0 rfl rfl) rfl rfl hl.1 rfl (lv_room (Nat.le_of_ble_eq_true rfl)) dX4_pass_36 ⟨(Nat.le_of_ble_eq_true rfl), (Nat.le_of_ble_eq_true rfl)⟩) hP hD hS hA [0, 1] [2, 3, 4, 5, 6] rfl rfl rfl (by decide) (fun u_5 H locs h_6 hP hD hS => ?_)
  have hP : va_P g.1 vwCl [(oX6 p0 p1 p2 p3 p4 (nI w)), (aI g p1 24 sd), (aI g p3 6 st), (aI g p4 6 me), (aI g q1 6 (flF (fun _ => 0) sh 6)), (oX4 h0 q0 q1 mo), (aI g q0 24 (mvF f 2 0 ((((f 3) * (sd 10)) * (f 5)) / 10000)))] H := hP
  have hD : va_D A [(oX6 p0 p1 p2 p3 p4 (nI w)), (aI g p1 24 sd), (aI g p3 6 st), (aI g p4 6 me), (aI g q1 6 (flF (fun _ => 0) sh 6)), (oX4 h0 q0 q1 mo), (aI g q0 24 (mvF f 2 0 ((((f 3) * (sd 10)) * (f 5)) / 10000)))] := hD
  have hP : va_P g.1 vwCl [(oX6 p0 p1 p2 p3 p4 (nI w)), (aI g p1 24 sd), (aI g p3 6 st), (aI g p4 6 me), (aI g q1 6 (flF (fun _ => 0) sh 6)), (oX4 h0 q0 q1 mo), (aI g q0 24 (taxF sd f))] H := hP
  have hD : va_D A [(oX6 p0 p1 p2 p3 p4 (nI w)), (aI g p1 24 sd), (aI g p3 6 st), (aI g p4 6 me), (aI g q1 6 (flF (fun _ => 0) sh 6)), (oX4 h0 q0 q1 mo), (aI g q0 24 (taxF sd f))] := hD
  refine lv_aload_nN hx hb dX4_pass_39 rfl (lv_at hl 2 rfl) ?_
  refine lv_ifnullN (tgt := 71) hx hb dX4_pass_40 (by decide) ?_
  refine lv_aload_n hx hb dX4_pass_71 rfl (lv_at hl 0 rfl) ?_
  refine va_get (v := .ref q0) (T := TX4) (N := 3) hx hb hts inX4 hown hK hP 5 rfl rfl 0 (by decide) f9 (fun _ h9 => h9) rfl dX4_pass_72 ?_
  refine lv_iconst (v := 5) hx hb dX4_pass_75 (by decide) ?_
  refine lv_iconst (v := 0) hx hb dX4_pass_76 (by decide) ?_
  refine lv_aload_n hx hb dX4_pass_77 rfl (lv_at hl 0 rfl) ?_
  refine va_get (v := .ref q0) (T := TX4) (N := 3) hx hb hts inX4 hown hK hP 5 rfl rfl 0 (by decide) f9 (fun _ h9 => h9) rfl dX4_pass_78 ?_
  refine lv_iconst (v := 5) hx hb dX4_pass_81 (by decide) ?_
  refine he_iald hx hb hK hP 6 rfl (5) (by decide) (by decide) (by first | decide | assumption) ((taxF sd f) 5) rfl dX4_pass_82 ?_
  refine lv_aload_n hx hb dX4_pass_83 rfl (lv_at hl 1 rfl) ?_
  refine va_get (v := .ref p1) (T := TX6) (N := 5) hx hb hts inX6 hown hK hP 0 rfl rfl 0 (by decide) f28 (fun _ h9 => h9) rfl dX4_pass_84 ?_
  refine lv_bipush (v := 14) hx hb dX4_pass_87 (by decide) ?_
  refine he_iald hx hb hK hP 1 rfl (14) (by decide) (by decide) (by first | decide | assumption) (sd 14) rfl dX4_pass_89 ?_
  refine lv_isub hx hb dX4_pass_90 ?_
  refine va_mmax hx hb (by rw [hml]; exact hl.1.symm) hown ml68 msmax mi mcmax (by decide) (Nat.le_of_ble_eq_true rfl) (Nat.le_of_ble_eq_true rfl) (Nat.le_of_ble_eq_true rfl) dX4_pass_91 ?_
  refine he_iast hx hb hK hP hD hS 6 rfl (5) (by decide) (by decide) (by first | decide | assumption) dX4_pass_94 (fun H locs hP hD hS => ?_)
  have hP : va_P g.1 vwCl [(oX6 p0 p1 p2 p3 p4 (nI w)), (aI g p1 24 sd), (aI g p3 6 st), (aI g p4 6 me), (aI g q1 6 (flF (fun _ => 0) sh 6)), (oX4 h0 q0 q1 mo), (aI g q0 24 (upd (taxF sd f) 5 (if 0 < (((taxF sd f) 5) - (sd 14)) then ((taxF sd f) 5) - (sd 14) else 0)))] H := hP
  have hD : va_D A [(oX6 p0 p1 p2 p3 p4 (nI w)), (aI g p1 24 sd), (aI g p3 6 st), (aI g p4 6 me), (aI g q1 6 (flF (fun _ => 0) sh 6)), (oX4 h0 q0 q1 mo), (aI g q0 24 (upd (taxF sd f) 5 (if 0 < (((taxF sd f) 5) - (sd 14)) then ((taxF sd f) 5) - (sd 14) else 0)))] := hD
  have hP : va_P g.1 vwCl [(oX6 p0 p1 p2 p3 p4 (nI w)), (aI g p1 24 sd), (aI g p3 6 st), (aI g p4 6 me), (aI g q1 6 (flF (fun _ => 0) sh 6)), (oX4 h0 q0 q1 mo), (aI g q0 24 (psA sd (taxF sd f)))] H := hP
  have hD : va_D A [(oX6 p0 p1 p2 p3 p4 (nI w)), (aI g p1 24 sd), (aI g p3 6 st), (aI g p4 6 me), (aI g q1 6 (flF (fun _ => 0) sh 6)), (oX4 h0 q0 q1 mo), (aI g q0 24 (psA sd (taxF sd f)))] := hD
  refine lv_aload_n hx hb dX4_pass_95 rfl (lv_at hl 0 rfl) ?_
  refine lv_aload_n hx hb dX4_pass_96 rfl (lv_at hl 1 rfl) ?_
  refine he_cv (wc := [(oX4 h0 q0 q1 mo), (aI g q0 24 (psA sd (taxF sd f))), (oX6 p0 p1 p2 p3 p4 (nI w)), (aI g p1 24 sd), (aI g p3 6 st), (aI g p4 6 me)]) (wr := [(aI g q1 6 (flF (fun _ => 0) sh 6))]) (va_runV (As := [.ref p0]) (rest := []) ⟨hx, hb, hml, hown, hts⟩ (c_X4_mend l g h0 q0 q1 mo (psA sd (taxF sd f)) p0 p1 p2 p3 p4 w sd st me (by first | assumption | decide | omega) H.size) (cwV 1 hts gX4_pass_X4_mend rfl rfl rfl (by decide +kernel) ⟨Nat.le_of_ble_eq_true rfl, Nat.le_of_ble_eq_true rfl⟩) (he_preV (wc := [(oX4 h0 q0 q1 mo), (aI g q0 24 (psA sd (taxF sd f))), (oX6 p0 p1 p2 p3 p4 (nI w)), (aI g p1 24 sd), (aI g p3 6 st), (aI g p4 6 me)]) hK hP hD hS hA hE [5, 6, 0, 1, 2, 3] rfl rfl 5 rfl rfl) rfl rfl hl.1 rfl (lv_room (Nat.le_of_ble_eq_true rfl)) dX4_pass_97 ⟨(Nat.le_of_ble_eq_true rfl), (Nat.le_of_ble_eq_true rfl)⟩) hP hD hS hA [5, 6, 0, 1, 2, 3] [4] rfl rfl rfl (by decide) (fun u_8 H locs h_9 hP hD hS => ?_)
  have hP : va_P g.1 vwCl [(aI g q1 6 (flF (fun _ => 0) sh 6)), (oX4 h0 q0 q1 mo), (aI g q0 24 (mendF sd st me (psA sd (taxF sd f)) w)), (oX6 p0 p1 p2 p3 p4 (nI w)), (aI g p1 24 sd), (aI g p3 6 st), (aI g p4 6 me)] H := hP
  have hD : va_D A [(aI g q1 6 (flF (fun _ => 0) sh 6)), (oX4 h0 q0 q1 mo), (aI g q0 24 (mendF sd st me (psA sd (taxF sd f)) w)), (oX6 p0 p1 p2 p3 p4 (nI w)), (aI g p1 24 sd), (aI g p3 6 st), (aI g p4 6 me)] := hD
  refine lv_aload_n hx hb dX4_pass_100 rfl (lv_at hl 0 rfl) ?_
  refine lv_iconst (v := 0) hx hb dX4_pass_101 (by decide) ?_
  refine lv_iconst (v := 2) hx hb dX4_pass_102 (by decide) ?_
  refine lv_aload_n hx hb dX4_pass_103 rfl (lv_at hl 1 rfl) ?_
  refine va_get (v := .ref p1) (T := TX6) (N := 5) hx hb hts inX6 hown hK hP 3 rfl rfl 0 (by decide) f28 (fun _ h9 => h9) rfl dX4_pass_104 ?_
  refine lv_iconst (v := 5) hx hb dX4_pass_107 (by decide) ?_
  refine he_iald hx hb hK hP 4 rfl (5) (by decide) (by decide) (by first | decide | assumption) (sd 5) rfl dX4_pass_108 ?_
  refine lv_aload_n hx hb dX4_pass_109 rfl (lv_at hl 0 rfl) ?_
  refine va_get (v := .ref q0) (T := TX4) (N := 3) hx hb hts inX4 hown hK hP 1 rfl rfl 0 (by decide) f9 (fun _ h9 => h9) rfl dX4_pass_110 ?_
  refine lv_iconst (v := 3) hx hb dX4_pass_113 (by decide) ?_
  refine he_iald hx hb hK hP 2 rfl (3) (by decide) (by decide) (by first | decide | assumption) ((mendF sd st me (psA sd (taxF sd f)) w) 3) rfl dX4_pass_114 ?_
  refine lv_bipush (v := 10) hx hb dX4_pass_115 (by decide) ?_
  refine lv_idiv hx hb dX4_pass_117 (by decide) ?_
  refine lv_imul hx hb dX4_pass_118 ?_
  refine he_cv (wc := [(oX4 h0 q0 q1 mo), (aI g q0 24 (mendF sd st me (psA sd (taxF sd f)) w))]) (wr := [(aI g q1 6 (flF (fun _ => 0) sh 6)), (oX6 p0 p1 p2 p3 p4 (nI w)), (aI g p1 24 sd), (aI g p3 6 st), (aI g p4 6 me)]) (va_runV (As := [.int 0, .int 2, .int ((sd 5) * (((mendF sd st me (psA sd (taxF sd f)) w) 3) / 10))]) (rest := []) ⟨hx, hb, hml, hown, hts⟩ (c_X4_move l g h0 q0 q1 mo (mendF sd st me (psA sd (taxF sd f)) w) 0 2 ((sd 5) * (((mendF sd st me (psA sd (taxF sd f)) w) 3) / 10)) (by first | assumption | decide | omega) (by first | assumption | decide | omega) H.size) (cwV 3 hts gX4_pass_X4_move rfl rfl rfl (by decide +kernel) ⟨Nat.le_of_ble_eq_true rfl, Nat.le_of_ble_eq_true rfl⟩) (he_preV (wc := [(oX4 h0 q0 q1 mo), (aI g q0 24 (mendF sd st me (psA sd (taxF sd f)) w))]) hK hP hD hS hA hE [1, 2] rfl rfl 1 rfl rfl) rfl rfl hl.1 rfl (lv_room (Nat.le_of_ble_eq_true rfl)) dX4_pass_119 ⟨(Nat.le_of_ble_eq_true rfl), (Nat.le_of_ble_eq_true rfl)⟩) hP hD hS hA [1, 2] [0, 3, 4, 5, 6] rfl rfl rfl (by decide) (fun u_11 H locs h_12 hP hD hS => ?_)
  have hP : va_P g.1 vwCl [(aI g q1 6 (flF (fun _ => 0) sh 6)), (oX6 p0 p1 p2 p3 p4 (nI w)), (aI g p1 24 sd), (aI g p3 6 st), (aI g p4 6 me), (oX4 h0 q0 q1 mo), (aI g q0 24 (mvF (mendF sd st me (psA sd (taxF sd f)) w) 0 2 ((sd 5) * (((mendF sd st me (psA sd (taxF sd f)) w) 3) / 10))))] H := hP
  have hD : va_D A [(aI g q1 6 (flF (fun _ => 0) sh 6)), (oX6 p0 p1 p2 p3 p4 (nI w)), (aI g p1 24 sd), (aI g p3 6 st), (aI g p4 6 me), (oX4 h0 q0 q1 mo), (aI g q0 24 (mvF (mendF sd st me (psA sd (taxF sd f)) w) 0 2 ((sd 5) * (((mendF sd st me (psA sd (taxF sd f)) w) 3) / 10))))] := hD
  have hP : va_P g.1 vwCl [(aI g q1 6 (flF (fun _ => 0) sh 6)), (oX6 p0 p1 p2 p3 p4 (nI w)), (aI g p1 24 sd), (aI g p3 6 st), (aI g p4 6 me), (oX4 h0 q0 q1 mo), (aI g q0 24 (psB sd (mendF sd st me (psA sd (taxF sd f)) w)))] H := hP
  have hD : va_D A [(aI g q1 6 (flF (fun _ => 0) sh 6)), (oX6 p0 p1 p2 p3 p4 (nI w)), (aI g p1 24 sd), (aI g p3 6 st), (aI g p4 6 me), (oX4 h0 q0 q1 mo), (aI g q0 24 (psB sd (mendF sd st me (psA sd (taxF sd f)) w)))] := hD
  refine lv_aload_n hx hb dX4_pass_122 rfl (lv_at hl 0 rfl) ?_
  refine lv_iconst (v := 1) hx hb dX4_pass_123 (by decide) ?_
  refine lv_iconst (v := 2) hx hb dX4_pass_124 (by decide) ?_
  refine lv_aload_n hx hb dX4_pass_125 rfl (lv_at hl 1 rfl) ?_
  refine va_get (v := .ref p1) (T := TX6) (N := 5) hx hb hts inX6 hown hK hP 1 rfl rfl 0 (by decide) f28 (fun _ h9 => h9) rfl dX4_pass_126 ?_
  refine lv_bipush (v := 8) hx hb dX4_pass_129 (by decide) ?_
  refine he_iald hx hb hK hP 2 rfl (8) (by decide) (by decide) (by first | decide | assumption) (sd 8) rfl dX4_pass_131 ?_
  refine lv_aload_n hx hb dX4_pass_132 rfl (lv_at hl 0 rfl) ?_
  refine va_get (v := .ref q0) (T := TX4) (N := 3) hx hb hts inX4 hown hK hP 5 rfl rfl 0 (by decide) f9 (fun _ h9 => h9) rfl dX4_pass_133 ?_
  refine lv_iconst (v := 4) hx hb dX4_pass_136 (by decide) ?_
  refine he_iald hx hb hK hP 6 rfl (4) (by decide) (by decide) (by first | decide | assumption) ((psB sd (mendF sd st me (psA sd (taxF sd f)) w)) 4) rfl dX4_pass_137 ?_
  refine lv_bipush (v := 10) hx hb dX4_pass_138 (by decide) ?_
  refine lv_idiv hx hb dX4_pass_140 (by decide) ?_
  refine lv_imul hx hb dX4_pass_141 ?_
  refine he_cv (wc := [(oX4 h0 q0 q1 mo), (aI g q0 24 (psB sd (mendF sd st me (psA sd (taxF sd f)) w)))]) (wr := [(aI g q1 6 (flF (fun _ => 0) sh 6)), (oX6 p0 p1 p2 p3 p4 (nI w)), (aI g p1 24 sd), (aI g p3 6 st), (aI g p4 6 me)]) (va_runV (As := [.int 1, .int 2, .int ((sd 8) * (((psB sd (mendF sd st me (psA sd (taxF sd f)) w)) 4) / 10))]) (rest := []) ⟨hx, hb, hml, hown, hts⟩ (c_X4_move l g h0 q0 q1 mo (psB sd (mendF sd st me (psA sd (taxF sd f)) w)) 1 2 ((sd 8) * (((psB sd (mendF sd st me (psA sd (taxF sd f)) w)) 4) / 10)) (by first | assumption | decide | omega) (by first | assumption | decide | omega) H.size) (cwV 3 hts gX4_pass_X4_move rfl rfl rfl (by decide +kernel) ⟨Nat.le_of_ble_eq_true rfl, Nat.le_of_ble_eq_true rfl⟩) (he_preV (wc := [(oX4 h0 q0 q1 mo), (aI g q0 24 (psB sd (mendF sd st me (psA sd (taxF sd f)) w)))]) hK hP hD hS hA hE [5, 6] rfl rfl 5 rfl rfl) rfl rfl hl.1 rfl (lv_room (Nat.le_of_ble_eq_true rfl)) dX4_pass_142 ⟨(Nat.le_of_ble_eq_true rfl), (Nat.le_of_ble_eq_true rfl)⟩) hP hD hS hA [5, 6] [0, 1, 2, 3, 4] rfl rfl rfl (by decide) (fun u_14 H locs h_15 hP hD hS => ?_)
  have hP : va_P g.1 vwCl [(aI g q1 6 (flF (fun _ => 0) sh 6)), (oX6 p0 p1 p2 p3 p4 (nI w)), (aI g p1 24 sd), (aI g p3 6 st), (aI g p4 6 me), (oX4 h0 q0 q1 mo), (aI g q0 24 (mvF (psB sd (mendF sd st me (psA sd (taxF sd f)) w)) 1 2 ((sd 8) * (((psB sd (mendF sd st me (psA sd (taxF sd f)) w)) 4) / 10))))] H := hP
  have hD : va_D A [(aI g q1 6 (flF (fun _ => 0) sh 6)), (oX6 p0 p1 p2 p3 p4 (nI w)), (aI g p1 24 sd), (aI g p3 6 st), (aI g p4 6 me), (oX4 h0 q0 q1 mo), (aI g q0 24 (mvF (psB sd (mendF sd st me (psA sd (taxF sd f)) w)) 1 2 ((sd 8) * (((psB sd (mendF sd st me (psA sd (taxF sd f)) w)) 4) / 10))))] := hD
  have hP : va_P g.1 vwCl [(aI g q1 6 (flF (fun _ => 0) sh 6)), (oX6 p0 p1 p2 p3 p4 (nI w)), (aI g p1 24 sd), (aI g p3 6 st), (aI g p4 6 me), (oX4 h0 q0 q1 mo), (aI g q0 24 (psC sd (psB sd (mendF sd st me (psA sd (taxF sd f)) w))))] H := hP
  have hD : va_D A [(aI g q1 6 (flF (fun _ => 0) sh 6)), (oX6 p0 p1 p2 p3 p4 (nI w)), (aI g p1 24 sd), (aI g p3 6 st), (aI g p4 6 me), (oX4 h0 q0 q1 mo), (aI g q0 24 (psC sd (psB sd (mendF sd st me (psA sd (taxF sd f)) w))))] := hD
  refine lv_aload_n hx hb dX4_pass_145 rfl (lv_at hl 0 rfl) ?_
  refine lv_aload_n hx hb dX4_pass_146 rfl (lv_at hl 1 rfl) ?_
  refine va_get (v := .ref p1) (T := TX6) (N := 5) hx hb hts inX6 hown hK hP 1 rfl rfl 0 (by decide) f28 (fun _ h9 => h9) rfl dX4_pass_147 ?_
  refine lv_bipush (v := 8) hx hb dX4_pass_150 (by decide) ?_
  refine he_iald hx hb hK hP 2 rfl (8) (by decide) (by decide) (by first | decide | assumption) (sd 8) rfl dX4_pass_152 ?_
  refine lv_aload_n hx hb dX4_pass_153 rfl (lv_at hl 1 rfl) ?_
  refine va_get (v := .ref p1) (T := TX6) (N := 5) hx hb hts inX6 hown hK hP 1 rfl rfl 0 (by decide) f28 (fun _ h9 => h9) rfl dX4_pass_154 ?_
  refine lv_iconst (v := 5) hx hb dX4_pass_157 (by decide) ?_
  refine he_iald hx hb hK hP 2 rfl (5) (by decide) (by decide) (by first | decide | assumption) (sd 5) rfl dX4_pass_158 ?_
  refine lv_isub hx hb dX4_pass_159 ?_
  refine he_cv (wc := [(oX4 h0 q0 q1 mo), (aI g q0 24 (psC sd (psB sd (mendF sd st me (psA sd (taxF sd f)) w))))]) (wr := [(aI g q1 6 (flF (fun _ => 0) sh 6)), (oX6 p0 p1 p2 p3 p4 (nI w)), (aI g p1 24 sd), (aI g p3 6 st), (aI g p4 6 me)]) (va_runV (As := [.int ((sd 8) - (sd 5))]) (rest := []) ⟨hx, hb, hml, hown, hts⟩ (c_X4_desert l g h0 q0 q1 mo (psC sd (psB sd (mendF sd st me (psA sd (taxF sd f)) w))) ((sd 8) - (sd 5)) H.size) (cwV 1 hts gX4_pass_X4_desert rfl rfl rfl (by decide +kernel) ⟨Nat.le_of_ble_eq_true rfl, Nat.le_of_ble_eq_true rfl⟩) (he_preV (wc := [(oX4 h0 q0 q1 mo), (aI g q0 24 (psC sd (psB sd (mendF sd st me (psA sd (taxF sd f)) w))))]) hK hP hD hS hA hE [5, 6] rfl rfl 5 rfl rfl) rfl rfl hl.1 rfl (lv_room (Nat.le_of_ble_eq_true rfl)) dX4_pass_160 ⟨(Nat.le_of_ble_eq_true rfl), (Nat.le_of_ble_eq_true rfl)⟩) hP hD hS hA [5, 6] [0, 1, 2, 3, 4] rfl rfl rfl (by decide) (fun u_17 H locs h_18 hP hD hS => ?_)
  have hP : va_P g.1 vwCl [(aI g q1 6 (flF (fun _ => 0) sh 6)), (oX6 p0 p1 p2 p3 p4 (nI w)), (aI g p1 24 sd), (aI g p3 6 st), (aI g p4 6 me), (oX4 h0 q0 q1 mo), (aI g q0 24 (dsF (psC sd (psB sd (mendF sd st me (psA sd (taxF sd f)) w))) ((sd 8) - (sd 5))))] H := hP
  have hD : va_D A [(aI g q1 6 (flF (fun _ => 0) sh 6)), (oX6 p0 p1 p2 p3 p4 (nI w)), (aI g p1 24 sd), (aI g p3 6 st), (aI g p4 6 me), (oX4 h0 q0 q1 mo), (aI g q0 24 (dsF (psC sd (psB sd (mendF sd st me (psA sd (taxF sd f)) w))) ((sd 8) - (sd 5))))] := hD
  have hP : va_P g.1 vwCl [(aI g q1 6 (flF (fun _ => 0) sh 6)), (oX6 p0 p1 p2 p3 p4 (nI w)), (aI g p1 24 sd), (aI g p3 6 st), (aI g p4 6 me), (oX4 h0 q0 q1 mo), (aI g q0 24 (psT sd st me w (taxF sd f)))] H := hP
  have hD : va_D A [(aI g q1 6 (flF (fun _ => 0) sh 6)), (oX6 p0 p1 p2 p3 p4 (nI w)), (aI g p1 24 sd), (aI g p3 6 st), (aI g p4 6 me), (oX4 h0 q0 q1 mo), (aI g q0 24 (psT sd st me w (taxF sd f)))] := hD
  refine lv_aload_n hx hb dX4_pass_163 rfl (lv_at hl 0 rfl) ?_
  refine lv_dup hx hb dX4_pass_164 rfl ?_
  refine va_get (v := .int mo) (T := TX4) (N := 3) hx hb hts inX4 hown hK hP 5 rfl rfl 2 (by decide) f18 (fun _ h9 => h9) rfl dX4_pass_165 ?_
  refine lv_iconst (v := 1) hx hb dX4_pass_168 (by decide) ?_
  refine lv_iadd hx hb dX4_pass_169 ?_
  refine va_put (v := .int (mo + 1)) (ty := .int) (T := TX4) (N := 3) hx hb hts inX4 tyX4 tyX4_ok nmX4 hown hK hP hD hS 5 rfl rfl 2 (by decide) f18 (fun _ h9 => h9) rfl (by decide +kernel) rfl rfl (Nat.le_of_ble_eq_true rfl) dX4_pass_170 (fun H locs hP hD hS => ?_)
  have hP : va_P g.1 vwCl [(aI g q1 6 (flF (fun _ => 0) sh 6)), (oX6 p0 p1 p2 p3 p4 (nI w)), (aI g p1 24 sd), (aI g p3 6 st), (aI g p4 6 me), (oX4 h0 q0 q1 (mo + 1)), (aI g q0 24 (psT sd st me w (taxF sd f)))] H := hP
  have hD : va_D A [(aI g q1 6 (flF (fun _ => 0) sh 6)), (oX6 p0 p1 p2 p3 p4 (nI w)), (aI g p1 24 sd), (aI g p3 6 st), (aI g p4 6 me), (oX4 h0 q0 q1 (mo + 1)), (aI g q0 24 (psT sd st me w (taxF sd f)))] := hD
  refine lv_aload_nN hx hb dX4_pass_173 rfl (lv_at hl 2 rfl) ?_
  refine lv_ifnullN (tgt := 206) hx hb dX4_pass_174 (by decide) ?_
  have hP := hP.sub (ws' := [(oX4 h0 q0 q1 (mo + 1)), (aI g q0 24 (psT sd st me w (taxF sd f))), (aI g q1 6 (flF (fun _ => 0) sh 6)), (oX6 p0 p1 p2 p3 p4 (nI w)), (aI g p1 24 sd), (aI g p3 6 st), (aI g p4 6 me)]) [5, 6, 0, 1, 2, 3, 4] rfl
  have hD := hD.sub (ws' := [(oX4 h0 q0 q1 (mo + 1)), (aI g q0 24 (psT sd st me w (taxF sd f))), (aI g q1 6 (flF (fun _ => 0) sh 6)), (oX6 p0 p1 p2 p3 p4 (nI w)), (aI g p1 24 sd), (aI g p3 6 st), (aI g p4 6 me)]) [5, 6, 0, 1, 2, 3, 4] (by decide) rfl
  exact he_rv hQ hx hb hr hlk hP hD hS dX4_pass_206 (Nat.le_of_ble_eq_true rfl) (Nat.le_of_ble_eq_true rfl) (()) (rfl) (trivial)
end
section
set_option maxHeartbeats 4000000 in
set_option maxRecDepth 100000 in
theorem s_X4_weakest (l : Launch) (g : he_G) (h0 : Nat) (q0 : Nat) (q1 : Nat) (mo : Int32) (f : Nat → Int32) (w : Nat) (hw6 : w ≤ 6) (hw0 : 0 < w) : he_I l yX4_weakest wsX4_weakest 0 0 0 0 g [.ref h0, .int (nI w)] [(oX4 h0 q0 q1 mo), (aI g q0 24 f)] (fun (r : Int32) (u : Unit) => r = nI (wkI f (w - 1))) (fun (u : Unit) => [(oX4 h0 q0 q1 mo), (aI g q0 24 f)]) := by
  refine he_begin (l := l) (g := g) (y := yX4_weakest) (wl := wsX4_weakest) (fr := 0) (lo := 0) (mc := 0) (ms := 0) (av := [.ref h0, .int (nI w)]) (ws := [(oX4 h0 q0 q1 mo), (aI g q0 24 f)]) (cc := cX4_weakest) (maxL := 4) (ret := (some .int)) (fun A => va_Qi (fun (r : Int32) (u : Unit) => r = nI (wkI f (w - 1))) (fun u t => he_post g A ((fun (u : Unit) => [(oX4 h0 q0 q1 mo), (aI g q0 24 f)]) u) t) A) (by decide) rfl (Nat.le_of_ble_eq_true rfl) ?_
  intro p e s m args below meth c A ls H locs Q hQ hB
  obtain ⟨hx, hb, hr, hml, hown, hts, hlk, hin, hP, hK, hD, hS, hA, hE, hl⟩ := hB
  have hl : lv_has ls 4 [(0, .ref h0), (1, .int (nI w))] := hl
  have f9 := hts (.fieldLink RX4 9 "HiredEnemy$Course" "now" "[I") (iwoX4_weakest (k := 0) rfl)
  have inX4 : ∀ w ∈ wsX40, w ∈ wsX4_weakest := innX4_weakest_X4
  refine lv_iconst (v := 0) hx hb dX4_weakest_0 (by decide) ?_
  refine lv_istore_n (lv' := [(2, .int 0), (0, .ref h0), (1, .int (nI w))]) hx hb dX4_weakest_1 rfl hl (by decide) rfl (fun ls hl => ?_)
  refine lv_iconst (v := 1) hx hb dX4_weakest_2 (by decide) ?_
  refine lv_istore_n (lv' := [(3, .int 1), (2, .int 0), (0, .ref h0), (1, .int (nI w))]) hx hb dX4_weakest_3 rfl hl (by decide) rfl (fun ls hl => ?_)
  have loop4 : ∀ (n9 : Nat) (j : Nat) (b : Nat), w + 1 - j < n9 → (1 ≤ j) → (j ≤ w) → (b = wkI f (j - 1)) → ∀ (H : Heap) (locs : List Loc) (ls : Array Slot), va_P g.1 vwCl [(oX4 h0 q0 q1 mo), (aI g q0 24 f)] H → va_D A [(oX4 h0 q0 q1 mo), (aI g q0 24 f)] → va_S A s.heap H locs → lv_has ls 4 [(0, .ref h0), (1, .int (nI w)), (2, .int (nI b)), (3, .int (nI j))] → W p l e (he_room 0 0 0 0) s m args below meth c H locs 0 0 Q (F0 m 4 ls []) := by
    intro n9
    induction n9 with
    | zero => intro j b hm9; exact absurd hm9 (Nat.not_lt_zero _)
    | succ n9 ih4 =>
      intro j b hm9 hj1 hj hbk H locs ls hP hD hS hl
      refine lv_iload_n hx hb dX4_weakest_4 rfl (lv_at hl 3 rfl) ?_
      refine lv_iload_n hx hb dX4_weakest_5 rfl (lv_at hl 1 rfl) ?_
      refine lv_icmp_ge (tgt := 38) hx hb dX4_weakest_6 (by decide) (fun c_1 => ?_) (fun c_1 => ?_)
      · have k_2 : w ≤ j := (he_cle (a := w) (b := j) rfl rfl (by omega) (by omega)).mp c_1
        refine lv_iload_n hx hb dX4_weakest_38 rfl (lv_at hl 2 rfl) ?_
        exact he_ri hQ hx hb hr hlk hP hD hS dX4_weakest_39 (Nat.le_of_ble_eq_true rfl) (Nat.le_of_ble_eq_true rfl) (()) (rfl) (congrArg nI (by rw [hbk, show j = w by omega]))
      · have k_3 : ¬ (w ≤ j) := fun h9 => c_1 ((he_cle (a := w) (b := j) rfl rfl (by omega) (by omega)).mpr h9)
        refine lv_aload_n hx hb dX4_weakest_9 rfl (lv_at hl 0 rfl) ?_
        refine va_get (v := .ref q0) (T := TX4) (N := 3) hx hb hts inX4 hown hK hP 0 rfl rfl 0 (by decide) f9 (fun _ h9 => h9) rfl dX4_weakest_10 ?_
        refine lv_bipush (v := 12) hx hb dX4_weakest_13 (by decide) ?_
        refine lv_iload_n hx hb dX4_weakest_15 rfl (lv_at hl 3 rfl) ?_
        refine lv_iadd hx hb dX4_weakest_16 ?_
        refine he_top (nI (12 + j)) (nI_add 12 j) ?_
        have hb6 : b < 6 := by have := wkI_le f (j - 1); omega
        refine he_iald hx hb hK hP 1 rfl (12 + j) rfl (by first | assumption | decide | omega) (by first | decide | assumption) (f (12 + j)) rfl dX4_weakest_17 ?_
        refine lv_aload_n hx hb dX4_weakest_18 rfl (lv_at hl 0 rfl) ?_
        refine va_get (v := .ref q0) (T := TX4) (N := 3) hx hb hts inX4 hown hK hP 0 rfl rfl 0 (by decide) f9 (fun _ h9 => h9) rfl dX4_weakest_19 ?_
        refine lv_bipush (v := 12) hx hb dX4_weakest_22 (by decide) ?_
        refine lv_iload_n hx hb dX4_weakest_24 rfl (lv_at hl 2 rfl) ?_
        refine lv_iadd hx hb dX4_weakest_25 ?_
        refine he_top (nI (12 + b)) (nI_add 12 b) ?_
        refine he_iald hx hb hK hP 1 rfl (12 + b) rfl (by first | assumption | decide | omega) (by first | decide | assumption) (f (12 + b)) rfl dX4_weakest_26 ?_
        refine lv_icmp_ge (tgt := 32) hx hb dX4_weakest_27 (by decide) (fun c_4 => ?_) (fun c_4 => ?_)
        · refine lv_iinc (v := nI (j + 1)) (lv' := [(3, .int (nI (j + 1))), (0, .ref h0), (1, .int (nI w)), (2, .int (nI b))]) hx hb dX4_weakest_32 hl (k := 3) rfl (nI_1 j) (by decide) rfl (fun ls hl => ?_)
          refine lv_goto (tgt := 4) hx hb dX4_weakest_35 (by decide) ?_
          exact ih4 (j + 1) b (by omega) (by omega) (by omega) (by rw [show j + 1 - 1 = j by omega, wkI_s hj1, ← hbk, if_pos c_4]) _ _ _ hP hD hS (lv_sub hl [1, 2, 3, 0] rfl)
        · refine lv_iload_n hx hb dX4_weakest_30 rfl (lv_at hl 3 rfl) ?_
          refine lv_istore_n (lv' := [(2, .int (nI j)), (0, .ref h0), (1, .int (nI w)), (3, .int (nI j))]) hx hb dX4_weakest_31 rfl hl (by decide) rfl (fun ls hl => ?_)
          refine lv_iinc (v := nI (j + 1)) (lv' := [(3, .int (nI (j + 1))), (2, .int (nI j)), (0, .ref h0), (1, .int (nI w))]) hx hb dX4_weakest_32 hl (k := 3) rfl (nI_1 j) (by decide) rfl (fun ls hl => ?_)
          refine lv_goto (tgt := 4) hx hb dX4_weakest_35 (by decide) ?_
          exact ih4 (j + 1) j (by omega) (by omega) (by omega) (by rw [show j + 1 - 1 = j by omega, wkI_s hj1, ← hbk, if_neg c_4]) _ _ _ hP hD hS (lv_sub hl [2, 3, 1, 0] rfl)
  exact loop4 ((w + 1 - 1) + 1) 1 0 (Nat.lt_succ_self _) (Nat.le_refl 1) (by omega) rfl _ _ _ hP hD hS (lv_sub hl [2, 3, 1, 0] rfl)
set_option maxHeartbeats 4000000 in
set_option maxRecDepth 100000 in
theorem s_X4_breach (l : Launch) (g : he_G) (h0 : Nat) (q0 : Nat) (q1 : Nat) (mo : Int32) (f : Nat → Int32) (p0 : Nat) (p1 : Nat) (p2 : Nat) (p3 : Nat) (p4 : Nat) (w : Int32) (sd : Nat → Int32) (st : Nat → Int32) (t0 : Nat) (t1 : Nat) (t2 : Nat) (pw : Int32) (pd : Nat → Int32) (k : Nat) (hk : k < 6) : he_V l yX4_breach wsX4_breach 2 37 0 0 g [.ref h0, .ref p0, .ref t0, .int (nI k)] [(oX4 h0 q0 q1 mo), (aI g q0 24 f), (oX6 p0 p1 p2 p3 p4 w), (aI g p1 24 sd), (aI g p3 6 st), (oX5 t0 t1 t2 pw), (aI g t1 6 pd)] (fun (u : Unit) => True) (fun (u : Unit) => [(oX4 h0 q0 q1 mo), (aI g q0 24 (mvF (frF (upd (upd (upd f 6 (f 6 + 1)) (18 + k) (upd f 6 (f 6 + 1) (18 + k) + 1)) (12 + k) (st k)) (sd 13)) 0 1 (pd 4))), (oX6 p0 p1 p2 p3 p4 w), (aI g p1 24 sd), (aI g p3 6 st), (oX5 t0 t1 t2 pw), (aI g t1 6 pd)]) := by
  refine he_begin (l := l) (g := g) (y := yX4_breach) (wl := wsX4_breach) (fr := 2) (lo := 37) (mc := 0) (ms := 0) (av := [.ref h0, .ref p0, .ref t0, .int (nI k)]) (ws := [(oX4 h0 q0 q1 mo), (aI g q0 24 f), (oX6 p0 p1 p2 p3 p4 w), (aI g p1 24 sd), (aI g p3 6 st), (oX5 t0 t1 t2 pw), (aI g t1 6 pd)]) (cc := cX4_breach) (maxL := 4) (ret := none) (fun A => va_Qv (fun (u : Unit) => True) (fun u t => he_post g A ((fun (u : Unit) => [(oX4 h0 q0 q1 mo), (aI g q0 24 (mvF (frF (upd (upd (upd f 6 (f 6 + 1)) (18 + k) (upd f 6 (f 6 + 1) (18 + k) + 1)) (12 + k) (st k)) (sd 13)) 0 1 (pd 4))), (oX6 p0 p1 p2 p3 p4 w), (aI g p1 24 sd), (aI g p3 6 st), (oX5 t0 t1 t2 pw), (aI g t1 6 pd)]) u) t) A) (by decide) rfl (Nat.le_of_ble_eq_true rfl) ?_
  intro p e s m args below meth c A ls H locs Q hQ hB
  obtain ⟨hx, hb, hr, hml, hown, hts, hlk, hin, hP, hK, hD, hS, hA, hE, hl⟩ := hB
  have hl : lv_has ls 4 [(0, .ref h0), (1, .ref p0), (2, .ref t0), (3, .int (nI k))] := hl
  have f9 := hts (.fieldLink RX4 9 "HiredEnemy$Course" "now" "[I") (iwoX4_breach (k := 0) rfl)
  have inX4 : ∀ w ∈ wsX40, w ∈ wsX4_breach := innX4_breach_X4
  have f36 := hts (.fieldLink RX4 36 "HiredEnemy$Plan" "strength" "[I") (iwoX4_breach (k := 1) rfl)
  have inX6 : ∀ w ∈ wsX60, w ∈ wsX4_breach := innX4_breach_X6
  have f28 := hts (.fieldLink RX4 28 "HiredEnemy$Plan" "said" "[I") (iwoX4_breach (k := 2) rfl)
  have f57 := hts (.fieldLink RX4 57 "HiredEnemy$Pact" "said" "[I") (iwoX4_breach (k := 3) rfl)
  have inX5 : ∀ w ∈ wsX50, w ∈ wsX4_breach := innX4_breach_X5
  refine lv_aload_n hx hb dX4_breach_0 rfl (lv_at hl 0 rfl) ?_
  refine va_get (v := .ref q0) (T := TX4) (N := 3) hx hb hts inX4 hown hK hP 0 rfl rfl 0 (by decide) f9 (fun _ h9 => h9) rfl dX4_breach_1 ?_
  refine lv_bipush (v := 6) hx hb dX4_breach_4 (by decide) ?_
  refine lv_dup2_11 hx hb dX4_breach_6 rfl rfl ?_
  refine he_iald hx hb hK hP 1 rfl (6) (by decide) (by decide) (by first | decide | assumption) (f 6) rfl dX4_breach_7 ?_
  refine lv_iconst (v := 1) hx hb dX4_breach_8 (by decide) ?_
  refine lv_iadd hx hb dX4_breach_9 ?_
  refine he_iast hx hb hK hP hD hS 1 rfl (6) (by decide) (by decide) (by first | decide | assumption) dX4_breach_10 (fun H locs hP hD hS => ?_)
  have hP : va_P g.1 vwCl [(oX4 h0 q0 q1 mo), (aI g q0 24 (upd f 6 ((f 6) + 1))), (oX6 p0 p1 p2 p3 p4 w), (aI g p1 24 sd), (aI g p3 6 st), (oX5 t0 t1 t2 pw), (aI g t1 6 pd)] H := hP
  have hD : va_D A [(oX4 h0 q0 q1 mo), (aI g q0 24 (upd f 6 ((f 6) + 1))), (oX6 p0 p1 p2 p3 p4 w), (aI g p1 24 sd), (aI g p3 6 st), (oX5 t0 t1 t2 pw), (aI g t1 6 pd)] := hD
  refine lv_aload_n hx hb dX4_breach_11 rfl (lv_at hl 0 rfl) ?_
  refine va_get (v := .ref q0) (T := TX4) (N := 3) hx hb hts inX4 hown hK hP 0 rfl rfl 0 (by decide) f9 (fun _ h9 => h9) rfl dX4_breach_12 ?_
  refine lv_bipush (v := 18) hx hb dX4_breach_15 (by decide) ?_
  refine lv_iload_n hx hb dX4_breach_17 rfl (lv_at hl 3 rfl) ?_
  refine lv_iadd hx hb dX4_breach_18 ?_
  refine he_top (nI (18 + k)) (nI_add 18 k) ?_
  refine lv_dup2_11 hx hb dX4_breach_19 rfl rfl ?_
  refine he_iald hx hb hK hP 1 rfl (18 + k) rfl (by first | assumption | decide | omega) (by first | decide | assumption) ((upd f 6 ((f 6) + 1)) (18 + k)) rfl dX4_breach_20 ?_
  refine lv_iconst (v := 1) hx hb dX4_breach_21 (by decide) ?_
  refine lv_iadd hx hb dX4_breach_22 ?_
  refine he_iast hx hb hK hP hD hS 1 rfl (18 + k) rfl (by first | assumption | decide | omega) (by first | decide | assumption) dX4_breach_23 (fun H locs hP hD hS => ?_)
  have hP : va_P g.1 vwCl [(oX4 h0 q0 q1 mo), (aI g q0 24 (upd (upd f 6 ((f 6) + 1)) (18 + k) (((upd f 6 ((f 6) + 1)) (18 + k)) + 1))), (oX6 p0 p1 p2 p3 p4 w), (aI g p1 24 sd), (aI g p3 6 st), (oX5 t0 t1 t2 pw), (aI g t1 6 pd)] H := hP
  have hD : va_D A [(oX4 h0 q0 q1 mo), (aI g q0 24 (upd (upd f 6 ((f 6) + 1)) (18 + k) (((upd f 6 ((f 6) + 1)) (18 + k)) + 1))), (oX6 p0 p1 p2 p3 p4 w), (aI g p1 24 sd), (aI g p3 6 st), (oX5 t0 t1 t2 pw), (aI g t1 6 pd)] := hD
  refine lv_aload_n hx hb dX4_breach_24 rfl (lv_at hl 0 rfl) ?_
  refine va_get (v := .ref q0) (T := TX4) (N := 3) hx hb hts inX4 hown hK hP 0 rfl rfl 0 (by decide) f9 (fun _ h9 => h9) rfl dX4_breach_25 ?_
  refine lv_bipush (v := 12) hx hb dX4_breach_28 (by decide) ?_
  refine lv_iload_n hx hb dX4_breach_30 rfl (lv_at hl 3 rfl) ?_
  refine lv_iadd hx hb dX4_breach_31 ?_
  refine he_top (nI (12 + k)) (nI_add 12 k) ?_
  refine lv_aload_n hx hb dX4_breach_32 rfl (lv_at hl 1 rfl) ?_
  refine va_get (v := .ref p3) (T := TX6) (N := 5) hx hb hts inX6 hown hK hP 2 rfl rfl 2 (by decide) f36 (fun _ h9 => h9) rfl dX4_breach_33 ?_
  refine lv_iload_n hx hb dX4_breach_36 rfl (lv_at hl 3 rfl) ?_
  refine he_iald hx hb hK hP 4 rfl (k) rfl (by first | assumption | decide | omega) (by first | decide | assumption) (st k) rfl dX4_breach_37 ?_
  refine he_iast hx hb hK hP hD hS 1 rfl (12 + k) rfl (by first | assumption | decide | omega) (by first | decide | assumption) dX4_breach_38 (fun H locs hP hD hS => ?_)
  have hP : va_P g.1 vwCl [(oX4 h0 q0 q1 mo), (aI g q0 24 (upd (upd (upd f 6 ((f 6) + 1)) (18 + k) (((upd f 6 ((f 6) + 1)) (18 + k)) + 1)) (12 + k) (st k))), (oX6 p0 p1 p2 p3 p4 w), (aI g p1 24 sd), (aI g p3 6 st), (oX5 t0 t1 t2 pw), (aI g t1 6 pd)] H := hP
  have hD : va_D A [(oX4 h0 q0 q1 mo), (aI g q0 24 (upd (upd (upd f 6 ((f 6) + 1)) (18 + k) (((upd f 6 ((f 6) + 1)) (18 + k)) + 1)) (12 + k) (st k))), (oX6 p0 p1 p2 p3 p4 w), (aI g p1 24 sd), (aI g p3 6 st), (oX5 t0 t1 t2 pw), (aI g t1 6 pd)] := hD
  refine lv_aload_n hx hb dX4_breach_39 rfl (lv_at hl 0 rfl) ?_
  refine lv_aload_n hx hb dX4_breach_40 rfl (lv_at hl 1 rfl) ?_
  refine va_get (v := .ref p1) (T := TX6) (N := 5) hx hb hts inX6 hown hK hP 2 rfl rfl 0 (by decide) f28 (fun _ h9 => h9) rfl dX4_breach_41 ?_
  refine lv_bipush (v := 13) hx hb dX4_breach_44 (by decide) ?_
  refine he_iald hx hb hK hP 3 rfl (13) (by decide) (by decide) (by first | decide | assumption) (sd 13) rfl dX4_breach_46 ?_
  refine he_cv (wc := [(oX4 h0 q0 q1 mo), (aI g q0 24 (upd (upd (upd f 6 ((f 6) + 1)) (18 + k) (((upd f 6 ((f 6) + 1)) (18 + k)) + 1)) (12 + k) (st k)))]) (wr := [(oX6 p0 p1 p2 p3 p4 w), (aI g p1 24 sd), (aI g p3 6 st), (oX5 t0 t1 t2 pw), (aI g t1 6 pd)]) (va_runV (As := [.int (sd 13)]) (rest := []) ⟨hx, hb, hml, hown, hts⟩ (c_X4_frighten l g h0 q0 q1 mo (upd (upd (upd f 6 ((f 6) + 1)) (18 + k) (((upd f 6 ((f 6) + 1)) (18 + k)) + 1)) (12 + k) (st k)) (sd 13) H.size) (cwV 1 hts gX4_breach_X4_frighten rfl rfl rfl (by decide +kernel) ⟨Nat.le_of_ble_eq_true rfl, Nat.le_of_ble_eq_true rfl⟩) (he_preV (wc := [(oX4 h0 q0 q1 mo), (aI g q0 24 (upd (upd (upd f 6 ((f 6) + 1)) (18 + k) (((upd f 6 ((f 6) + 1)) (18 + k)) + 1)) (12 + k) (st k)))]) hK hP hD hS hA hE [0, 1] rfl rfl 0 rfl rfl) rfl rfl hl.1 rfl (lv_room (Nat.le_of_ble_eq_true rfl)) dX4_breach_47 ⟨(Nat.le_of_ble_eq_true rfl), (Nat.le_of_ble_eq_true rfl)⟩) hP hD hS hA [0, 1] [2, 3, 4, 5, 6] rfl rfl rfl (by decide) (fun u_2 H locs h_3 hP hD hS => ?_)
  have hP : va_P g.1 vwCl [(oX6 p0 p1 p2 p3 p4 w), (aI g p1 24 sd), (aI g p3 6 st), (oX5 t0 t1 t2 pw), (aI g t1 6 pd), (oX4 h0 q0 q1 mo), (aI g q0 24 (frF (upd (upd (upd f 6 ((f 6) + 1)) (18 + k) (((upd f 6 ((f 6) + 1)) (18 + k)) + 1)) (12 + k) (st k)) (sd 13)))] H := hP
  have hD : va_D A [(oX6 p0 p1 p2 p3 p4 w), (aI g p1 24 sd), (aI g p3 6 st), (oX5 t0 t1 t2 pw), (aI g t1 6 pd), (oX4 h0 q0 q1 mo), (aI g q0 24 (frF (upd (upd (upd f 6 ((f 6) + 1)) (18 + k) (((upd f 6 ((f 6) + 1)) (18 + k)) + 1)) (12 + k) (st k)) (sd 13)))] := hD
  refine lv_aload_n hx hb dX4_breach_50 rfl (lv_at hl 0 rfl) ?_
  refine lv_iconst (v := 0) hx hb dX4_breach_51 (by decide) ?_
  refine lv_iconst (v := 1) hx hb dX4_breach_52 (by decide) ?_
  refine lv_aload_n hx hb dX4_breach_53 rfl (lv_at hl 2 rfl) ?_
  refine va_get (v := .ref t1) (T := TX5) (N := 3) hx hb hts inX5 hown hK hP 3 rfl rfl 0 (by decide) f57 (fun _ h9 => h9) rfl dX4_breach_54 ?_
  refine lv_iconst (v := 4) hx hb dX4_breach_57 (by decide) ?_
  refine he_iald hx hb hK hP 4 rfl (4) (by decide) (by decide) (by first | decide | assumption) (pd 4) rfl dX4_breach_58 ?_
  refine he_cv (wc := [(oX4 h0 q0 q1 mo), (aI g q0 24 (frF (upd (upd (upd f 6 ((f 6) + 1)) (18 + k) (((upd f 6 ((f 6) + 1)) (18 + k)) + 1)) (12 + k) (st k)) (sd 13)))]) (wr := [(oX6 p0 p1 p2 p3 p4 w), (aI g p1 24 sd), (aI g p3 6 st), (oX5 t0 t1 t2 pw), (aI g t1 6 pd)]) (va_runV (As := [.int 0, .int 1, .int (pd 4)]) (rest := []) ⟨hx, hb, hml, hown, hts⟩ (c_X4_move l g h0 q0 q1 mo (frF (upd (upd (upd f 6 ((f 6) + 1)) (18 + k) (((upd f 6 ((f 6) + 1)) (18 + k)) + 1)) (12 + k) (st k)) (sd 13)) 0 1 (pd 4) (by first | assumption | decide | omega) (by first | assumption | decide | omega) H.size) (cwV 3 hts gX4_breach_X4_move rfl rfl rfl (by decide +kernel) ⟨Nat.le_of_ble_eq_true rfl, Nat.le_of_ble_eq_true rfl⟩) (he_preV (wc := [(oX4 h0 q0 q1 mo), (aI g q0 24 (frF (upd (upd (upd f 6 ((f 6) + 1)) (18 + k) (((upd f 6 ((f 6) + 1)) (18 + k)) + 1)) (12 + k) (st k)) (sd 13)))]) hK hP hD hS hA hE [5, 6] rfl rfl 5 rfl rfl) rfl rfl hl.1 rfl (lv_room (Nat.le_of_ble_eq_true rfl)) dX4_breach_59 ⟨(Nat.le_of_ble_eq_true rfl), (Nat.le_of_ble_eq_true rfl)⟩) hP hD hS hA [5, 6] [0, 1, 2, 3, 4] rfl rfl rfl (by decide) (fun u_5 H locs h_6 hP hD hS => ?_)
  have hP : va_P g.1 vwCl [(oX6 p0 p1 p2 p3 p4 w), (aI g p1 24 sd), (aI g p3 6 st), (oX5 t0 t1 t2 pw), (aI g t1 6 pd), (oX4 h0 q0 q1 mo), (aI g q0 24 (mvF (frF (upd (upd (upd f 6 ((f 6) + 1)) (18 + k) (((upd f 6 ((f 6) + 1)) (18 + k)) + 1)) (12 + k) (st k)) (sd 13)) 0 1 (pd 4)))] H := hP
  have hD : va_D A [(oX6 p0 p1 p2 p3 p4 w), (aI g p1 24 sd), (aI g p3 6 st), (oX5 t0 t1 t2 pw), (aI g t1 6 pd), (oX4 h0 q0 q1 mo), (aI g q0 24 (mvF (frF (upd (upd (upd f 6 ((f 6) + 1)) (18 + k) (((upd f 6 ((f 6) + 1)) (18 + k)) + 1)) (12 + k) (st k)) (sd 13)) 0 1 (pd 4)))] := hD
  have hP := hP.sub (ws' := [(oX4 h0 q0 q1 mo), (aI g q0 24 (mvF (frF (upd (upd (upd f 6 ((f 6) + 1)) (18 + k) (((upd f 6 ((f 6) + 1)) (18 + k)) + 1)) (12 + k) (st k)) (sd 13)) 0 1 (pd 4))), (oX6 p0 p1 p2 p3 p4 w), (aI g p1 24 sd), (aI g p3 6 st), (oX5 t0 t1 t2 pw), (aI g t1 6 pd)]) [5, 6, 0, 1, 2, 3, 4] rfl
  have hD := hD.sub (ws' := [(oX4 h0 q0 q1 mo), (aI g q0 24 (mvF (frF (upd (upd (upd f 6 ((f 6) + 1)) (18 + k) (((upd f 6 ((f 6) + 1)) (18 + k)) + 1)) (12 + k) (st k)) (sd 13)) 0 1 (pd 4))), (oX6 p0 p1 p2 p3 p4 w), (aI g p1 24 sd), (aI g p3 6 st), (oX5 t0 t1 t2 pw), (aI g t1 6 pd)]) [5, 6, 0, 1, 2, 3, 4] (by decide) rfl
  exact he_rv hQ hx hb hr hlk hP hD hS dX4_breach_62 (Nat.le_of_ble_eq_true rfl) (Nat.le_of_ble_eq_true rfl) (()) (rfl) (trivial)
set_option maxHeartbeats 4000000 in
set_option maxRecDepth 100000 in
theorem s_X4_shoot (l : Launch) (g : he_G) (h0 : Nat) (q0 : Nat) (q1 : Nat) (mo : Int32) (f : Nat → Int32) (sh : Nat → Int32) (p0 : Nat) (p1 : Nat) (p2 : Nat) (p3 : Nat) (p4 : Nat) (w : Nat) (sd : Nat → Int32) (st : Nat → Int32) (t0 : Nat) (t1 : Nat) (t2 : Nat) (pw : Int32) (pd : Nat → Int32) (wb : Nat → Int32) (ck : Nat) (q2 : Nat) (it : Nat) (T : Nat → Int32) (hw6 : w ≤ 6) (hck : pd 3 = nI ck) (hc99 : ck ≤ 99) (hq2 : pd 2 = nI q2) (hq9 : q2 ≤ 9) (hit36 : it < 36) (hmo : mo - f 11 = nI it) (hbw : wb it = -1 ∨ ∃ k, k < w ∧ wb it = nI k) (hst : ∀ k, k < w → 0 < st k) (hBd : ∀ k, k < w → 0 < f (12 + k)) (hT10 : T 10 = sd 13) : he_V l yX4_shoot wsX4_shoot 3 60 0 0 g [.ref h0, .ref p0, .ref t0] [(oX4 h0 q0 q1 mo), (aI g q0 24 f), (aI g q1 6 sh), (oX6 p0 p1 p2 p3 p4 (nI w)), (aI g p1 24 sd), (aI g p3 6 st), (oX5 t0 t1 t2 pw), (aI g t1 6 pd), (aI g t2 36 wb)] (fun (u : (Nat → Int32) × (Nat → Int32)) => u.1 = upd (rSh T st (pd 4) (wb it) q2 w f sh (nSh w ck)).1 7 ((rSh T st (pd 4) (wb it) q2 w f sh (nSh w ck)).1 7 + rMiss (wb it) (rSh T st (pd 4) (wb it) q2 w f sh (nSh w ck)).2.2) ∧ u.2 = (rSh T st (pd 4) (wb it) q2 w f sh (nSh w ck)).2.1) (fun (u : (Nat → Int32) × (Nat → Int32)) => [(oX4 h0 q0 q1 mo), (aI g q0 24 u.1), (aI g q1 6 u.2), (oX6 p0 p1 p2 p3 p4 (nI w)), (aI g p1 24 sd), (aI g p3 6 st), (oX5 t0 t1 t2 pw), (aI g t1 6 pd), (aI g t2 36 wb)]) := by
  refine he_begin (l := l) (g := g) (y := yX4_shoot) (wl := wsX4_shoot) (fr := 3) (lo := 60) (mc := 0) (ms := 0) (av := [.ref h0, .ref p0, .ref t0]) (ws := [(oX4 h0 q0 q1 mo), (aI g q0 24 f), (aI g q1 6 sh), (oX6 p0 p1 p2 p3 p4 (nI w)), (aI g p1 24 sd), (aI g p3 6 st), (oX5 t0 t1 t2 pw), (aI g t1 6 pd), (aI g t2 36 wb)]) (cc := cX4_shoot) (maxL := 9) (ret := none) (fun A => va_Qv (fun (u : (Nat → Int32) × (Nat → Int32)) => u.1 = upd (rSh T st (pd 4) (wb it) q2 w f sh (nSh w ck)).1 7 ((rSh T st (pd 4) (wb it) q2 w f sh (nSh w ck)).1 7 + rMiss (wb it) (rSh T st (pd 4) (wb it) q2 w f sh (nSh w ck)).2.2) ∧ u.2 = (rSh T st (pd 4) (wb it) q2 w f sh (nSh w ck)).2.1) (fun u t => he_post g A ((fun (u : (Nat → Int32) × (Nat → Int32)) => [(oX4 h0 q0 q1 mo), (aI g q0 24 u.1), (aI g q1 6 u.2), (oX6 p0 p1 p2 p3 p4 (nI w)), (aI g p1 24 sd), (aI g p3 6 st), (oX5 t0 t1 t2 pw), (aI g t1 6 pd), (aI g t2 36 wb)]) u) t) A) (by decide) rfl (Nat.le_of_ble_eq_true rfl) ?_
  intro p e s m args below meth c A ls H locs Q hQ hB
  obtain ⟨hx, hb, hr, hml, hown, hts, hlk, hin, hP, hK, hD, hS, hA, hE, hl⟩ := hB
  have hl : lv_has ls 9 [(0, .ref h0), (1, .ref p0), (2, .ref t0)] := hl
  have f18 := hts (.fieldLink RX4 18 "HiredEnemy$Course" "month" "I") (iwoX4_shoot (k := 0) rfl)
  have inX4 : ∀ w ∈ wsX40, w ∈ wsX4_shoot := innX4_shoot_X4
  have f9 := hts (.fieldLink RX4 9 "HiredEnemy$Course" "now" "[I") (iwoX4_shoot (k := 1) rfl)
  have f33 := hts (.fieldLink RX4 33 "HiredEnemy$Plan" "walls" "I") (iwoX4_shoot (k := 2) rfl)
  have inX6 : ∀ w ∈ wsX60, w ∈ wsX4_shoot := innX4_shoot_X6
  have f15 := hts (.fieldLink RX4 15 "HiredEnemy$Course" "shot" "[I") (iwoX4_shoot (k := 4) rfl)
  have f57 := hts (.fieldLink RX4 57 "HiredEnemy$Pact" "said" "[I") (iwoX4_shoot (k := 3) rfl)
  have inX5 : ∀ w ∈ wsX50, w ∈ wsX4_shoot := innX4_shoot_X5
  refine lv_aload_n hx hb dX4_shoot_0 rfl (lv_at hl 2 rfl) ?_
  refine lv_aload_n hx hb dX4_shoot_1 rfl (lv_at hl 0 rfl) ?_
  refine va_get (v := .int mo) (T := TX4) (N := 3) hx hb hts inX4 hown hK hP 0 rfl rfl 2 (by decide) f18 (fun _ h9 => h9) rfl dX4_shoot_2 ?_
  refine lv_aload_n hx hb dX4_shoot_5 rfl (lv_at hl 0 rfl) ?_
  refine va_get (v := .ref q0) (T := TX4) (N := 3) hx hb hts inX4 hown hK hP 0 rfl rfl 0 (by decide) f9 (fun _ h9 => h9) rfl dX4_shoot_6 ?_
  refine lv_bipush (v := 11) hx hb dX4_shoot_9 (by decide) ?_
  refine he_iald hx hb hK hP 1 rfl (11) (by decide) (by decide) (by first | decide | assumption) (f 11) rfl dX4_shoot_11 ?_
  refine lv_isub hx hb dX4_shoot_12 ?_
  refine lv_aload_n hx hb dX4_shoot_13 rfl (lv_at hl 1 rfl) ?_
  refine va_get (v := .int (nI w)) (T := TX6) (N := 5) hx hb hts inX6 hown hK hP 3 rfl rfl 4 (by decide) f33 (fun _ h9 => h9) rfl dX4_shoot_14 ?_
  refine he_ci (wc := [(oX5 t0 t1 t2 pw), (aI g t2 36 wb)]) (wr := [(oX4 h0 q0 q1 mo), (aI g q0 24 f), (aI g q1 6 sh), (oX6 p0 p1 p2 p3 p4 (nI w)), (aI g p1 24 sd), (aI g p3 6 st), (aI g t1 6 pd)]) (va_runV (As := [.int (mo - (f 11)), .int (nI w)]) (rest := []) ⟨hx, hb, hml, hown, hts⟩ (c_X5_wallDue l g t0 t1 t2 pw wb (mo - (f 11)) (nI w) H.size) (cwV 2 hts gX4_shoot_X5_wallDue rfl rfl rfl (by decide +kernel) ⟨Nat.le_of_ble_eq_true rfl, Nat.le_of_ble_eq_true rfl⟩) (he_preV (wc := [(oX5 t0 t1 t2 pw), (aI g t2 36 wb)]) hK hP hD hS hA hE [6, 8] rfl rfl 6 rfl rfl) rfl rfl hl.1 rfl (lv_room (Nat.le_of_ble_eq_true rfl)) dX4_shoot_17 ⟨(Nat.le_of_ble_eq_true rfl), (Nat.le_of_ble_eq_true rfl)⟩) hP hD hS hA [6, 8] [0, 1, 2, 3, 4, 5, 7] rfl rfl rfl (by decide) (fun r_1 u_2 H locs h_3 hP hD hS => ?_)
  subst h_3
  have hP : va_P g.1 vwCl [(oX4 h0 q0 q1 mo), (aI g q0 24 f), (aI g q1 6 sh), (oX6 p0 p1 p2 p3 p4 (nI w)), (aI g p1 24 sd), (aI g p3 6 st), (aI g t1 6 pd), (oX5 t0 t1 t2 pw), (aI g t2 36 wb)] H := hP
  have hD : va_D A [(oX4 h0 q0 q1 mo), (aI g q0 24 f), (aI g q1 6 sh), (oX6 p0 p1 p2 p3 p4 (nI w)), (aI g p1 24 sd), (aI g p3 6 st), (aI g t1 6 pd), (oX5 t0 t1 t2 pw), (aI g t2 36 wb)] := hD
  have hbw9 := hbw
  rcases hbw9 with hdu | ⟨dk, hdk, hdu⟩
  · refine he_top ((-1)) (by rw [hmo, wd_eq hit36 hw6 (Or.inl hdu)]; exact hdu) ?_
    refine lv_istore_n (lv' := [(3, .int (-1)), (0, .ref h0), (1, .ref p0), (2, .ref t0)]) hx hb dX4_shoot_20 rfl hl (by decide) rfl (fun ls hl => ?_)
    have join77 : ∀ (fb : Int32) (c9 : Nat) (cl : Int32), (c9 ≤ 99) → (c9 = 0 ∨ 0 < w) → (c9 = nSh w ck) → (cl = if q2 ≤ 4 then 1 else 0) → ∀ (H : Heap) (locs : List Loc) (ls : Array Slot), va_P g.1 vwCl [(oX4 h0 q0 q1 mo), (aI g q0 24 f), (aI g q1 6 sh), (oX6 p0 p1 p2 p3 p4 (nI w)), (aI g p1 24 sd), (aI g p3 6 st), (aI g t1 6 pd), (oX5 t0 t1 t2 pw), (aI g t2 36 wb)] H → va_D A [(oX4 h0 q0 q1 mo), (aI g q0 24 f), (aI g q1 6 sh), (oX6 p0 p1 p2 p3 p4 (nI w)), (aI g p1 24 sd), (aI g p3 6 st), (aI g t1 6 pd), (oX5 t0 t1 t2 pw), (aI g t2 36 wb)] → va_S A s.heap H locs → lv_has ls 9 [(0, .ref h0), (1, .ref p0), (2, .ref t0), (3, .int (-1)), (4, .int fb), (5, .int (nI c9)), (6, .int cl)] → W p l e (he_room 3 60 0 0) s m args below meth c H locs 0 0 Q (F0 m 77 ls []) := by
      intro fb c9 cl hc9 hcw hc9e hcl H locs ls hP hD hS hl
      refine lv_iconst (v := (-1)) hx hb dX4_shoot_77 (by decide) ?_
      refine lv_istore (lv' := [(7, .int (-1)), (0, .ref h0), (1, .ref p0), (2, .ref t0), (3, .int (-1)), (4, .int fb), (5, .int (nI c9)), (6, .int cl)]) hx hb dX4_shoot_78 hl (by decide) rfl (fun ls hl => ?_)
      refine lv_iconst (v := 1) hx hb dX4_shoot_80 (by decide) ?_
      refine lv_istore (lv' := [(8, .int 1), (7, .int (-1)), (0, .ref h0), (1, .ref p0), (2, .ref t0), (3, .int (-1)), (4, .int fb), (5, .int (nI c9)), (6, .int cl)]) hx hb dX4_shoot_81 hl (by decide) rfl (fun ls hl => ?_)
      have loop83 : ∀ (n9 : Nat) (n : Nat) (t : Int32) (F : Nat → Int32) (G : Nat → Int32), c9 + 1 - n < n9 → (n ≤ c9) → (shR T st (pd 4) (wb it) q2 w f sh n t F G) → ∀ (H : Heap) (locs : List Loc) (ls : Array Slot), va_P g.1 vwCl [(oX4 h0 q0 q1 mo), (aI g q0 24 F), (aI g q1 6 G), (oX6 p0 p1 p2 p3 p4 (nI w)), (aI g p1 24 sd), (aI g p3 6 st), (oX5 t0 t1 t2 pw), (aI g t1 6 pd), (aI g t2 36 wb)] H → va_D A [(oX4 h0 q0 q1 mo), (aI g q0 24 F), (aI g q1 6 G), (oX6 p0 p1 p2 p3 p4 (nI w)), (aI g p1 24 sd), (aI g p3 6 st), (oX5 t0 t1 t2 pw), (aI g t1 6 pd), (aI g t2 36 wb)] → va_S A s.heap H locs → lv_has ls 9 [(0, .ref h0), (1, .ref p0), (2, .ref t0), (3, .int (-1)), (4, .int fb), (5, .int (nI c9)), (6, .int cl), (7, .int t), (8, .int (nI (n + 1)))] → W p l e (he_room 3 60 0 0) s m args below meth c H locs 0 0 Q (F0 m 83 ls []) := by
        intro n9
        induction n9 with
        | zero => intro n t F G hm9; exact absurd hm9 (Nat.not_lt_zero _)
        | succ n9 ih83 =>
          intro n t F G hm9 hn hR H locs ls hP hD hS hl
          refine lv_iload hx hb dX4_shoot_83 (lv_at hl 8 rfl) ?_
          refine lv_iload hx hb dX4_shoot_85 (lv_at hl 5 rfl) ?_
          refine lv_icmp_gt (tgt := 197) hx hb dX4_shoot_87 (by decide) (fun c_4 => ?_) (fun c_4 => ?_)
          · have k_5 : c9 < n + 1 := (he_clt (a := c9) (b := n + 1) rfl rfl (by omega) (by omega)).mp c_4
            have hnn : n = nSh w ck := by omega
            refine lv_iload_n hx hb dX4_shoot_197 rfl (lv_at hl 3 rfl) ?_
            refine lv_iconst (v := (-1)) hx hb dX4_shoot_198 (by decide) ?_
            refine lv_icmp_eq (tgt := 227) hx hb dX4_shoot_199 (by decide) (fun c_6 => ?_) (fun c_6 => ?_)
            · exact he_rv hQ hx hb hr hlk hP hD hS dX4_shoot_227 (Nat.le_of_ble_eq_true rfl) (Nat.le_of_ble_eq_true rfl) ((F, G)) (rfl) (⟨by dsimp only; rw [← hnn]; exact shR_e0 hdu hR, by dsimp only; rw [← hnn]; exact hR.2.1⟩)
            · exact absurd (by decide) c_6
          · have k_7 : ¬ (c9 < n + 1) := fun h9 => c_4 ((he_clt (a := c9) (b := n + 1) rfl rfl (by omega) (by omega)).mpr h9)
            have hw0 : 0 < w := hcw.resolve_left (by omega)
            have join115 : ∀ (k : Nat), (k < 6) → (k = aimK (wb it) F w) → ∀ (H : Heap) (locs : List Loc) (ls : Array Slot), va_P g.1 vwCl [(oX4 h0 q0 q1 mo), (aI g q0 24 F), (aI g q1 6 G), (oX6 p0 p1 p2 p3 p4 (nI w)), (aI g p1 24 sd), (aI g p3 6 st), (oX5 t0 t1 t2 pw), (aI g t1 6 pd), (aI g t2 36 wb)] H → va_D A [(oX4 h0 q0 q1 mo), (aI g q0 24 F), (aI g q1 6 G), (oX6 p0 p1 p2 p3 p4 (nI w)), (aI g p1 24 sd), (aI g p3 6 st), (oX5 t0 t1 t2 pw), (aI g t1 6 pd), (aI g t2 36 wb)] → va_S A s.heap H locs → lv_has ls 9 [(0, .ref h0), (1, .ref p0), (2, .ref t0), (3, .int (-1)), (4, .int fb), (5, .int (nI c9)), (6, .int cl), (7, .int (nI k)), (8, .int (nI (n + 1)))] → W p l e (he_room 3 60 0 0) s m args below meth c H locs 0 0 Q (F0 m 115 ls []) := by
              intro k hk hka H locs ls hP hD hS hl
              refine lv_aload_n hx hb dX4_shoot_115 rfl (lv_at hl 0 rfl) ?_
              refine va_get (v := .ref q1) (T := TX4) (N := 3) hx hb hts inX4 hown hK hP 0 rfl rfl 1 (by decide) f15 (fun _ h9 => h9) rfl dX4_shoot_116 ?_
              refine lv_iload hx hb dX4_shoot_119 (lv_at hl 7 rfl) ?_
              refine lv_dup2_11 hx hb dX4_shoot_121 rfl rfl ?_
              refine he_iald hx hb hK hP 2 rfl (k) rfl (by first | assumption | decide | omega) (by first | decide | assumption) (G k) rfl dX4_shoot_122 ?_
              refine lv_iconst (v := 1) hx hb dX4_shoot_123 (by decide) ?_
              refine lv_iadd hx hb dX4_shoot_124 ?_
              refine he_iast hx hb hK hP hD hS 2 rfl (k) rfl (by first | assumption | decide | omega) (by first | decide | assumption) dX4_shoot_125 (fun H locs hP hD hS => ?_)
              have hP : va_P g.1 vwCl [(oX4 h0 q0 q1 mo), (aI g q0 24 F), (aI g q1 6 (upd G k ((G k) + 1))), (oX6 p0 p1 p2 p3 p4 (nI w)), (aI g p1 24 sd), (aI g p3 6 st), (oX5 t0 t1 t2 pw), (aI g t1 6 pd), (aI g t2 36 wb)] H := hP
              have hD : va_D A [(oX4 h0 q0 q1 mo), (aI g q0 24 F), (aI g q1 6 (upd G k ((G k) + 1))), (oX6 p0 p1 p2 p3 p4 (nI w)), (aI g p1 24 sd), (aI g p3 6 st), (oX5 t0 t1 t2 pw), (aI g t1 6 pd), (aI g t2 36 wb)] := hD
              refine lv_aload_n hx hb dX4_shoot_126 rfl (lv_at hl 0 rfl) ?_
              refine va_get (v := .ref q0) (T := TX4) (N := 3) hx hb hts inX4 hown hK hP 0 rfl rfl 0 (by decide) f9 (fun _ h9 => h9) rfl dX4_shoot_127 ?_
              refine lv_bipush (v := 9) hx hb dX4_shoot_130 (by decide) ?_
              refine lv_dup2_11 hx hb dX4_shoot_132 rfl rfl ?_
              refine he_iald hx hb hK hP 1 rfl (9) (by decide) (by decide) (by first | decide | assumption) (F 9) rfl dX4_shoot_133 ?_
              refine lv_iconst (v := 1) hx hb dX4_shoot_134 (by decide) ?_
              refine lv_iadd hx hb dX4_shoot_135 ?_
              refine he_iast hx hb hK hP hD hS 1 rfl (9) (by decide) (by decide) (by first | decide | assumption) dX4_shoot_136 (fun H locs hP hD hS => ?_)
              have hP : va_P g.1 vwCl [(oX4 h0 q0 q1 mo), (aI g q0 24 (upd F 9 ((F 9) + 1))), (aI g q1 6 (upd G k ((G k) + 1))), (oX6 p0 p1 p2 p3 p4 (nI w)), (aI g p1 24 sd), (aI g p3 6 st), (oX5 t0 t1 t2 pw), (aI g t1 6 pd), (aI g t2 36 wb)] H := hP
              have hD : va_D A [(oX4 h0 q0 q1 mo), (aI g q0 24 (upd F 9 ((F 9) + 1))), (aI g q1 6 (upd G k ((G k) + 1))), (oX6 p0 p1 p2 p3 p4 (nI w)), (aI g p1 24 sd), (aI g p3 6 st), (oX5 t0 t1 t2 pw), (aI g t1 6 pd), (aI g t2 36 wb)] := hD
              refine lv_aload_n hx hb dX4_shoot_137 rfl (lv_at hl 0 rfl) ?_
              refine va_get (v := .ref q0) (T := TX4) (N := 3) hx hb hts inX4 hown hK hP 0 rfl rfl 0 (by decide) f9 (fun _ h9 => h9) rfl dX4_shoot_138 ?_
              refine lv_bipush (v := 12) hx hb dX4_shoot_141 (by decide) ?_
              refine lv_iload hx hb dX4_shoot_143 (lv_at hl 7 rfl) ?_
              refine lv_iadd hx hb dX4_shoot_145 ?_
              refine he_top (nI (12 + k)) (nI_add 12 k) ?_
              refine lv_dup2_11 hx hb dX4_shoot_146 rfl rfl ?_
              refine he_iald hx hb hK hP 1 rfl (12 + k) rfl (by first | assumption | decide | omega) (by first | decide | assumption) ((upd F 9 ((F 9) + 1)) (12 + k)) rfl dX4_shoot_147 ?_
              have join165 : ∀ (dm : Int32), (dm = dmI q2 (n + 1)) → ∀ (H : Heap) (locs : List Loc) (ls : Array Slot), va_P g.1 vwCl [(oX4 h0 q0 q1 mo), (aI g q0 24 (upd F 9 ((F 9) + 1))), (aI g q1 6 (upd G k ((G k) + 1))), (oX6 p0 p1 p2 p3 p4 (nI w)), (aI g p1 24 sd), (aI g p3 6 st), (oX5 t0 t1 t2 pw), (aI g t1 6 pd), (aI g t2 36 wb)] H → va_D A [(oX4 h0 q0 q1 mo), (aI g q0 24 (upd F 9 ((F 9) + 1))), (aI g q1 6 (upd G k ((G k) + 1))), (oX6 p0 p1 p2 p3 p4 (nI w)), (aI g p1 24 sd), (aI g p3 6 st), (oX5 t0 t1 t2 pw), (aI g t1 6 pd), (aI g t2 36 wb)] → va_S A s.heap H locs → lv_has ls 9 [(0, .ref h0), (1, .ref p0), (2, .ref t0), (3, .int (-1)), (4, .int fb), (5, .int (nI c9)), (6, .int cl), (7, .int (nI k)), (8, .int (nI (n + 1)))] → W p l e (he_room 3 60 0 0) s m args below meth c H locs 0 0 Q (F0 m 165 ls [.int dm, .int ((upd F 9 ((F 9) + 1)) (12 + k)), .int (nI (12 + k)), .ref q0]) := by
                intro dm hdm H locs ls hP hD hS hl
                subst hdm
                refine lv_isub hx hb dX4_shoot_165 ?_
                refine he_iast hx hb hK hP hD hS 1 rfl (12 + k) rfl (by first | assumption | decide | omega) (by first | decide | assumption) dX4_shoot_166 (fun H locs hP hD hS => ?_)
                have hP : va_P g.1 vwCl [(oX4 h0 q0 q1 mo), (aI g q0 24 (upd (upd F 9 ((F 9) + 1)) (12 + k) (((upd F 9 ((F 9) + 1)) (12 + k)) - (dmI q2 (n + 1))))), (aI g q1 6 (upd G k ((G k) + 1))), (oX6 p0 p1 p2 p3 p4 (nI w)), (aI g p1 24 sd), (aI g p3 6 st), (oX5 t0 t1 t2 pw), (aI g t1 6 pd), (aI g t2 36 wb)] H := hP
                have hD : va_D A [(oX4 h0 q0 q1 mo), (aI g q0 24 (upd (upd F 9 ((F 9) + 1)) (12 + k) (((upd F 9 ((F 9) + 1)) (12 + k)) - (dmI q2 (n + 1))))), (aI g q1 6 (upd G k ((G k) + 1))), (oX6 p0 p1 p2 p3 p4 (nI w)), (aI g p1 24 sd), (aI g p3 6 st), (oX5 t0 t1 t2 pw), (aI g t1 6 pd), (aI g t2 36 wb)] := hD
                refine lv_aload_n hx hb dX4_shoot_167 rfl (lv_at hl 0 rfl) ?_
                refine va_get (v := .ref q0) (T := TX4) (N := 3) hx hb hts inX4 hown hK hP 0 rfl rfl 0 (by decide) f9 (fun _ h9 => h9) rfl dX4_shoot_168 ?_
                refine lv_bipush (v := 12) hx hb dX4_shoot_171 (by decide) ?_
                refine lv_iload hx hb dX4_shoot_173 (lv_at hl 7 rfl) ?_
                refine lv_iadd hx hb dX4_shoot_175 ?_
                refine he_top (nI (12 + k)) (nI_add 12 k) ?_
                refine he_iald hx hb hK hP 1 rfl (12 + k) rfl (by first | assumption | decide | omega) (by first | decide | assumption) ((upd (upd F 9 ((F 9) + 1)) (12 + k) (((upd F 9 ((F 9) + 1)) (12 + k)) - (dmI q2 (n + 1)))) (12 + k)) rfl dX4_shoot_176 ?_
                refine lv_if_gt (tgt := 191) hx hb dX4_shoot_177 (by decide) (fun c_8 => ?_) (fun c_8 => ?_)
                · refine lv_iinc (v := nI (n + 1 + 1)) (lv' := [(8, .int (nI (n + 1 + 1))), (0, .ref h0), (1, .ref p0), (2, .ref t0), (3, .int (-1)), (4, .int fb), (5, .int (nI c9)), (6, .int cl), (7, .int (nI k))]) hx hb dX4_shoot_191 hl (k := 8) rfl (nI_1 (n + 1)) (by decide) rfl (fun ls hl => ?_)
                  refine lv_goto (tgt := 83) hx hb dX4_shoot_194 (by decide) ?_
                  have hP : va_P g.1 vwCl [(oX4 h0 q0 q1 mo), (aI g q0 24 (hitF F k (dmI q2 (n + 1)))), (aI g q1 6 (upd G k (G k + 1))), (oX6 p0 p1 p2 p3 p4 (nI w)), (aI g p1 24 sd), (aI g p3 6 st), (oX5 t0 t1 t2 pw), (aI g t1 6 pd), (aI g t2 36 wb)] H := by skip; exact hP
                  have hD : va_D A [(oX4 h0 q0 q1 mo), (aI g q0 24 (hitF F k (dmI q2 (n + 1)))), (aI g q1 6 (upd G k (G k + 1))), (oX6 p0 p1 p2 p3 p4 (nI w)), (aI g p1 24 sd), (aI g p3 6 st), (oX5 t0 t1 t2 pw), (aI g t1 6 pd), (aI g t2 36 wb)] := by skip; exact hD
                  exact ih83 (n + 1) (nI k) (hitF F k (dmI q2 (n + 1))) (upd G k (G k + 1)) (by omega) (by omega) (shR_s hw0 hw6 hbw hR hka c_8) _ _ _ hP hD hS (lv_sub hl [1, 2, 3, 4, 5, 6, 7, 8, 0] rfl)
                · refine lv_aload_n hx hb dX4_shoot_180 rfl (lv_at hl 0 rfl) ?_
                  refine lv_aload_n hx hb dX4_shoot_181 rfl (lv_at hl 1 rfl) ?_
                  refine lv_aload_n hx hb dX4_shoot_182 rfl (lv_at hl 2 rfl) ?_
                  refine lv_iload hx hb dX4_shoot_183 (lv_at hl 7 rfl) ?_
                  refine he_cv (wc := [(oX4 h0 q0 q1 mo), (aI g q0 24 (upd (upd F 9 ((F 9) + 1)) (12 + k) (((upd F 9 ((F 9) + 1)) (12 + k)) - (dmI q2 (n + 1))))), (oX6 p0 p1 p2 p3 p4 (nI w)), (aI g p1 24 sd), (aI g p3 6 st), (oX5 t0 t1 t2 pw), (aI g t1 6 pd)]) (wr := [(aI g q1 6 (upd G k ((G k) + 1))), (aI g t2 36 wb)]) (va_runV (As := [.ref p0, .ref t0, .int (nI k)]) (rest := []) ⟨hx, hb, hml, hown, hts⟩ (s_X4_breach l g h0 q0 q1 mo (upd (upd F 9 ((F 9) + 1)) (12 + k) (((upd F 9 ((F 9) + 1)) (12 + k)) - (dmI q2 (n + 1)))) p0 p1 p2 p3 p4 (nI w) sd st t0 t1 t2 pw pd k (by first | assumption | decide | omega) H.size) (cwV 3 hts gX4_shoot_X4_breach rfl rfl rfl (by decide +kernel) ⟨Nat.le_of_ble_eq_true rfl, Nat.le_of_ble_eq_true rfl⟩) (he_preV (wc := [(oX4 h0 q0 q1 mo), (aI g q0 24 (upd (upd F 9 ((F 9) + 1)) (12 + k) (((upd F 9 ((F 9) + 1)) (12 + k)) - (dmI q2 (n + 1))))), (oX6 p0 p1 p2 p3 p4 (nI w)), (aI g p1 24 sd), (aI g p3 6 st), (oX5 t0 t1 t2 pw), (aI g t1 6 pd)]) hK hP hD hS hA hE [0, 1, 3, 4, 5, 6, 7] rfl rfl 0 rfl rfl) rfl rfl hl.1 rfl (lv_room (Nat.le_of_ble_eq_true rfl)) dX4_shoot_185 ⟨(Nat.le_of_ble_eq_true rfl), (Nat.le_of_ble_eq_true rfl)⟩) hP hD hS hA [0, 1, 3, 4, 5, 6, 7] [2, 8] rfl rfl rfl (by decide) (fun u_10 H locs h_11 hP hD hS => ?_)
                  have hP : va_P g.1 vwCl [(aI g q1 6 (upd G k ((G k) + 1))), (aI g t2 36 wb), (oX4 h0 q0 q1 mo), (aI g q0 24 (mvF (frF (upd (upd (upd (upd (upd F 9 ((F 9) + 1)) (12 + k) (((upd F 9 ((F 9) + 1)) (12 + k)) - (dmI q2 (n + 1)))) 6 ((upd (upd F 9 ((F 9) + 1)) (12 + k) (((upd F 9 ((F 9) + 1)) (12 + k)) - (dmI q2 (n + 1)))) 6 + 1)) (18 + k) (upd (upd (upd F 9 ((F 9) + 1)) (12 + k) (((upd F 9 ((F 9) + 1)) (12 + k)) - (dmI q2 (n + 1)))) 6 ((upd (upd F 9 ((F 9) + 1)) (12 + k) (((upd F 9 ((F 9) + 1)) (12 + k)) - (dmI q2 (n + 1)))) 6 + 1) (18 + k) + 1)) (12 + k) (st k)) (sd 13)) 0 1 (pd 4))), (oX6 p0 p1 p2 p3 p4 (nI w)), (aI g p1 24 sd), (aI g p3 6 st), (oX5 t0 t1 t2 pw), (aI g t1 6 pd)] H := hP
                  have hD : va_D A [(aI g q1 6 (upd G k ((G k) + 1))), (aI g t2 36 wb), (oX4 h0 q0 q1 mo), (aI g q0 24 (mvF (frF (upd (upd (upd (upd (upd F 9 ((F 9) + 1)) (12 + k) (((upd F 9 ((F 9) + 1)) (12 + k)) - (dmI q2 (n + 1)))) 6 ((upd (upd F 9 ((F 9) + 1)) (12 + k) (((upd F 9 ((F 9) + 1)) (12 + k)) - (dmI q2 (n + 1)))) 6 + 1)) (18 + k) (upd (upd (upd F 9 ((F 9) + 1)) (12 + k) (((upd F 9 ((F 9) + 1)) (12 + k)) - (dmI q2 (n + 1)))) 6 ((upd (upd F 9 ((F 9) + 1)) (12 + k) (((upd F 9 ((F 9) + 1)) (12 + k)) - (dmI q2 (n + 1)))) 6 + 1) (18 + k) + 1)) (12 + k) (st k)) (sd 13)) 0 1 (pd 4))), (oX6 p0 p1 p2 p3 p4 (nI w)), (aI g p1 24 sd), (aI g p3 6 st), (oX5 t0 t1 t2 pw), (aI g t1 6 pd)] := hD
                  refine lv_iconst (v := (-1)) hx hb dX4_shoot_188 (by decide) ?_
                  refine lv_istore (lv' := [(7, .int (-1)), (0, .ref h0), (1, .ref p0), (2, .ref t0), (3, .int (-1)), (4, .int fb), (5, .int (nI c9)), (6, .int cl), (8, .int (nI (n + 1)))]) hx hb dX4_shoot_189 hl (by decide) rfl (fun ls hl => ?_)
                  refine lv_iinc (v := nI (n + 1 + 1)) (lv' := [(8, .int (nI (n + 1 + 1))), (7, .int (-1)), (0, .ref h0), (1, .ref p0), (2, .ref t0), (3, .int (-1)), (4, .int fb), (5, .int (nI c9)), (6, .int cl)]) hx hb dX4_shoot_191 hl (k := 8) rfl (nI_1 (n + 1)) (by decide) rfl (fun ls hl => ?_)
                  refine lv_goto (tgt := 83) hx hb dX4_shoot_194 (by decide) ?_
                  have hP : va_P g.1 vwCl [(aI g q1 6 (upd G k (G k + 1))), (aI g t2 36 wb), (oX4 h0 q0 q1 mo), (aI g q0 24 (rBr T st (pd 4) (hitF F k (dmI q2 (n + 1))) k)), (oX6 p0 p1 p2 p3 p4 (nI w)), (aI g p1 24 sd), (aI g p3 6 st), (oX5 t0 t1 t2 pw), (aI g t1 6 pd)] H := by rw [← br_eq sd st T (pd 4) (hitF F k (dmI q2 (n + 1))) k hk hT10]; exact hP
                  have hD : va_D A [(aI g q1 6 (upd G k (G k + 1))), (aI g t2 36 wb), (oX4 h0 q0 q1 mo), (aI g q0 24 (rBr T st (pd 4) (hitF F k (dmI q2 (n + 1))) k)), (oX6 p0 p1 p2 p3 p4 (nI w)), (aI g p1 24 sd), (aI g p3 6 st), (oX5 t0 t1 t2 pw), (aI g t1 6 pd)] := by rw [← br_eq sd st T (pd 4) (hitF F k (dmI q2 (n + 1))) k hk hT10]; exact hD
                  exact ih83 (n + 1) (-1) (rBr T st (pd 4) (hitF F k (dmI q2 (n + 1))) k) (upd G k (G k + 1)) (by omega) (by omega) (shR_b hw0 hw6 hbw hst (by omega) hR hka c_8) _ _ _ (hP.sub [2, 3, 0, 4, 5, 6, 7, 8, 1] rfl) (hD.sub [2, 3, 0, 4, 5, 6, 7, 8, 1] (by decide) rfl) hS (lv_sub hl [2, 3, 4, 5, 6, 7, 8, 1, 0] rfl)
              refine lv_iload hx hb dX4_shoot_148 (lv_at hl 6 rfl) ?_
              refine lv_if_eq (tgt := 164) hx hb dX4_shoot_150 (by decide) (fun c_12 => ?_) (fun c_12 => ?_)
              · refine lv_iconst (v := 1) hx hb dX4_shoot_164 (by decide) ?_
                exact join165 1 (dm_a hcl c_12) _ _ _ hP hD hS (lv_sub hl [0, 1, 2, 3, 4, 5, 6, 7, 8] rfl)
              · refine lv_iload hx hb dX4_shoot_153 (lv_at hl 8 rfl) ?_
                refine lv_iconst (v := 2) hx hb dX4_shoot_155 (by decide) ?_
                refine lv_irem hx hb dX4_shoot_156 (by decide) ?_
                refine lv_if_ne (tgt := 164) hx hb dX4_shoot_157 (by decide) (fun c_13 => ?_) (fun c_13 => ?_)
                · refine lv_iconst (v := 1) hx hb dX4_shoot_164 (by decide) ?_
                  exact join165 1 (dm_b (by omega) c_13) _ _ _ hP hD hS (lv_sub hl [0, 1, 2, 3, 4, 5, 6, 7, 8] rfl)
                · refine lv_iconst (v := 2) hx hb dX4_shoot_160 (by decide) ?_
                  refine lv_goto (tgt := 165) hx hb dX4_shoot_161 (by decide) ?_
                  exact join165 2 (dm_c hcl c_12 (by omega) c_13) _ _ _ hP hD hS (lv_sub hl [0, 1, 2, 3, 4, 5, 6, 7, 8] rfl)
            refine lv_iload hx hb dX4_shoot_90 (lv_at hl 7 rfl) ?_
            refine lv_iconst (v := (-1)) hx hb dX4_shoot_92 (by decide) ?_
            refine lv_icmp_ne (tgt := 115) hx hb dX4_shoot_93 (by decide) (fun c_14 => ?_) (fun c_14 => ?_)
            · obtain ⟨k, hk, rfl, hka⟩ := hR.2.2.1.resolve_left c_14
              exact join115 k hk hka _ _ _ hP hD hS (lv_sub hl [0, 1, 2, 3, 4, 5, 6, 7, 8] rfl)
            · refine lv_iload_n hx hb dX4_shoot_96 rfl (lv_at hl 3 rfl) ?_
              refine lv_iconst (v := (-1)) hx hb dX4_shoot_97 (by decide) ?_
              refine lv_icmp_ne (tgt := 112) hx hb dX4_shoot_98 (by decide) (fun c_15 => ?_) (fun c_15 => ?_)
              · exact absurd (by decide) c_15
              · refine lv_aload_n hx hb dX4_shoot_101 rfl (lv_at hl 0 rfl) ?_
                refine lv_aload_n hx hb dX4_shoot_102 rfl (lv_at hl 1 rfl) ?_
                refine va_get (v := .int (nI w)) (T := TX6) (N := 5) hx hb hts inX6 hown hK hP 3 rfl rfl 4 (by decide) f33 (fun _ h9 => h9) rfl dX4_shoot_103 ?_
                refine he_ci (wc := [(oX4 h0 q0 q1 mo), (aI g q0 24 F)]) (wr := [(aI g q1 6 G), (oX6 p0 p1 p2 p3 p4 (nI w)), (aI g p1 24 sd), (aI g p3 6 st), (oX5 t0 t1 t2 pw), (aI g t1 6 pd), (aI g t2 36 wb)]) (va_runV (As := [.int (nI w)]) (rest := []) ⟨hx, hb, hml, hown, hts⟩ (s_X4_weakest l g h0 q0 q1 mo F w (by first | assumption | decide | omega) (by first | assumption | decide | omega) H.size) (cwV 1 hts gX4_shoot_X4_weakest rfl rfl rfl (by decide +kernel) ⟨Nat.le_of_ble_eq_true rfl, Nat.le_of_ble_eq_true rfl⟩) (he_preV (wc := [(oX4 h0 q0 q1 mo), (aI g q0 24 F)]) hK hP hD hS hA hE [0, 1] rfl rfl 0 rfl rfl) rfl rfl hl.1 rfl (lv_room (Nat.le_of_ble_eq_true rfl)) dX4_shoot_106 ⟨(Nat.le_of_ble_eq_true rfl), (Nat.le_of_ble_eq_true rfl)⟩) hP hD hS hA [0, 1] [2, 3, 4, 5, 6, 7, 8] rfl rfl rfl (by decide) (fun r_16 u_17 H locs h_18 hP hD hS => ?_)
                subst h_18
                have hP : va_P g.1 vwCl [(aI g q1 6 G), (oX6 p0 p1 p2 p3 p4 (nI w)), (aI g p1 24 sd), (aI g p3 6 st), (oX5 t0 t1 t2 pw), (aI g t1 6 pd), (aI g t2 36 wb), (oX4 h0 q0 q1 mo), (aI g q0 24 F)] H := hP
                have hD : va_D A [(aI g q1 6 G), (oX6 p0 p1 p2 p3 p4 (nI w)), (aI g p1 24 sd), (aI g p3 6 st), (oX5 t0 t1 t2 pw), (aI g t1 6 pd), (aI g t2 36 wb), (oX4 h0 q0 q1 mo), (aI g q0 24 F)] := hD
                refine lv_goto (tgt := 113) hx hb dX4_shoot_109 (by decide) ?_
                refine lv_istore (lv' := [(7, .int (nI (wkI F (w - 1)))), (0, .ref h0), (1, .ref p0), (2, .ref t0), (3, .int (-1)), (4, .int fb), (5, .int (nI c9)), (6, .int cl), (8, .int (nI (n + 1)))]) hx hb dX4_shoot_113 hl (by decide) rfl (fun ls hl => ?_)
                exact join115 (wkI F (w - 1)) (by have := wkI_le F (w - 1); omega) (by unfold aimK; rw [if_pos hdu]) _ _ _ (hP.sub [7, 8, 0, 1, 2, 3, 4, 5, 6] rfl) (hD.sub [7, 8, 0, 1, 2, 3, 4, 5, 6] (by decide) rfl) hS (lv_sub hl [1, 2, 3, 4, 5, 6, 7, 0, 8] rfl)
      exact loop83 ((c9 + 1 - 0) + 1) 0 (-1) f sh (Nat.lt_succ_self _) (Nat.zero_le _) (shR_0 hBd) _ _ _ (hP.sub [0, 1, 2, 3, 4, 5, 7, 6, 8] rfl) (hD.sub [0, 1, 2, 3, 4, 5, 7, 6, 8] (by decide) rfl) hS (lv_sub hl [2, 3, 4, 5, 6, 7, 8, 1, 0] rfl)
    refine lv_iload_n hx hb dX4_shoot_21 rfl (lv_at hl 0 rfl) ?_
    refine lv_iconst (v := (-1)) hx hb dX4_shoot_22 (by decide) ?_
    refine lv_icmp_ne (tgt := 30) hx hb dX4_shoot_23 (by decide) (fun c_19 => ?_) (fun c_19 => ?_)
    · exact absurd (by decide) c_19
    · refine lv_iconst (v := 0) hx hb dX4_shoot_26 (by decide) ?_
      refine lv_goto (tgt := 39) hx hb dX4_shoot_27 (by decide) ?_
      refine lv_istore (lv' := [(4, .int 0), (3, .int (-1)), (0, .ref h0), (1, .ref p0), (2, .ref t0)]) hx hb dX4_shoot_39 hl (by decide) rfl (fun ls hl => ?_)
      refine lv_aload_n hx hb dX4_shoot_41 rfl (lv_at hl 3 rfl) ?_
      refine va_get (v := .int (nI w)) (T := TX6) (N := 5) hx hb hts inX6 hown hK hP 3 rfl rfl 4 (by decide) f33 (fun _ h9 => h9) rfl dX4_shoot_42 ?_
      refine lv_if_le (tgt := 57) hx hb dX4_shoot_45 (by decide) (fun c_20 => ?_) (fun c_20 => ?_)
      · have k_21 : w ≤ 0 := (he_cle (a := w) (b := 0) rfl (by decide) (by omega) (by omega)).mp c_20
        refine lv_iconst (v := 0) hx hb dX4_shoot_57 (by decide) ?_
        refine lv_istore (lv' := [(5, .int 0), (4, .int 0), (3, .int (-1)), (0, .ref h0), (1, .ref p0), (2, .ref t0)]) hx hb dX4_shoot_58 hl (by decide) rfl (fun ls hl => ?_)
        refine lv_aload_n hx hb dX4_shoot_60 rfl (lv_at hl 5 rfl) ?_
        refine va_get (v := .ref t1) (T := TX5) (N := 3) hx hb hts inX5 hown hK hP 7 rfl rfl 0 (by decide) f57 (fun _ h9 => h9) rfl dX4_shoot_61 ?_
        refine lv_iconst (v := 2) hx hb dX4_shoot_64 (by decide) ?_
        refine he_iald hx hb hK hP 6 rfl (2) (by decide) (by decide) (by first | decide | assumption) (nI q2) hq2 dX4_shoot_65 ?_
        refine lv_iconst (v := 4) hx hb dX4_shoot_66 (by decide) ?_
        refine lv_icmp_gt (tgt := 74) hx hb dX4_shoot_67 (by decide) (fun c_22 => ?_) (fun c_22 => ?_)
        · have k_23 : 4 < q2 := (he_clt (a := 4) (b := q2) (by decide) rfl (by omega) (by omega)).mp c_22
          refine lv_iconst (v := 0) hx hb dX4_shoot_74 (by decide) ?_
          refine lv_istore (lv' := [(6, .int 0), (5, .int 0), (4, .int 0), (3, .int (-1)), (0, .ref h0), (1, .ref p0), (2, .ref t0)]) hx hb dX4_shoot_75 hl (by decide) rfl (fun ls hl => ?_)
          exact join77 0 0 0 (by omega) (by omega) (by unfold nSh; rw [if_pos (by omega)]) (by rw [if_neg (by omega)]) _ _ _ hP hD hS (lv_sub hl [4, 5, 6, 3, 2, 1, 0] rfl)
        · have k_24 : ¬ (4 < q2) := fun h9 => c_22 ((he_clt (a := 4) (b := q2) (by decide) rfl (by omega) (by omega)).mpr h9)
          refine lv_iconst (v := 1) hx hb dX4_shoot_70 (by decide) ?_
          refine lv_goto (tgt := 75) hx hb dX4_shoot_71 (by decide) ?_
          refine lv_istore (lv' := [(6, .int 1), (5, .int 0), (4, .int 0), (3, .int (-1)), (0, .ref h0), (1, .ref p0), (2, .ref t0)]) hx hb dX4_shoot_75 hl (by decide) rfl (fun ls hl => ?_)
          exact join77 0 0 1 (by omega) (by omega) (by unfold nSh; rw [if_pos (by omega)]) (by rw [if_pos (by omega)]) _ _ _ hP hD hS (lv_sub hl [4, 5, 6, 3, 2, 1, 0] rfl)
      · have k_25 : ¬ (w ≤ 0) := fun h9 => c_20 ((he_cle (a := w) (b := 0) rfl (by decide) (by omega) (by omega)).mpr h9)
        refine lv_aload_n hx hb dX4_shoot_48 rfl (lv_at hl 4 rfl) ?_
        refine va_get (v := .ref t1) (T := TX5) (N := 3) hx hb hts inX5 hown hK hP 7 rfl rfl 0 (by decide) f57 (fun _ h9 => h9) rfl dX4_shoot_49 ?_
        refine lv_iconst (v := 3) hx hb dX4_shoot_52 (by decide) ?_
        refine he_iald hx hb hK hP 6 rfl (3) (by decide) (by decide) (by first | decide | assumption) (nI ck) hck dX4_shoot_53 ?_
        refine lv_goto (tgt := 58) hx hb dX4_shoot_54 (by decide) ?_
        refine lv_istore (lv' := [(5, .int (nI ck)), (4, .int 0), (3, .int (-1)), (0, .ref h0), (1, .ref p0), (2, .ref t0)]) hx hb dX4_shoot_58 hl (by decide) rfl (fun ls hl => ?_)
        refine lv_aload_n hx hb dX4_shoot_60 rfl (lv_at hl 5 rfl) ?_
        refine va_get (v := .ref t1) (T := TX5) (N := 3) hx hb hts inX5 hown hK hP 7 rfl rfl 0 (by decide) f57 (fun _ h9 => h9) rfl dX4_shoot_61 ?_
        refine lv_iconst (v := 2) hx hb dX4_shoot_64 (by decide) ?_
        refine he_iald hx hb hK hP 6 rfl (2) (by decide) (by decide) (by first | decide | assumption) (nI q2) hq2 dX4_shoot_65 ?_
        refine lv_iconst (v := 4) hx hb dX4_shoot_66 (by decide) ?_
        refine lv_icmp_gt (tgt := 74) hx hb dX4_shoot_67 (by decide) (fun c_26 => ?_) (fun c_26 => ?_)
        · have k_27 : 4 < q2 := (he_clt (a := 4) (b := q2) (by decide) rfl (by omega) (by omega)).mp c_26
          refine lv_iconst (v := 0) hx hb dX4_shoot_74 (by decide) ?_
          refine lv_istore (lv' := [(6, .int 0), (5, .int (nI ck)), (4, .int 0), (3, .int (-1)), (0, .ref h0), (1, .ref p0), (2, .ref t0)]) hx hb dX4_shoot_75 hl (by decide) rfl (fun ls hl => ?_)
          exact join77 0 ck 0 (by omega) (by omega) (by unfold nSh; rw [if_neg (by omega)]) (by rw [if_neg (by omega)]) _ _ _ hP hD hS (lv_sub hl [4, 5, 6, 3, 2, 1, 0] rfl)
        · have k_28 : ¬ (4 < q2) := fun h9 => c_26 ((he_clt (a := 4) (b := q2) (by decide) rfl (by omega) (by omega)).mpr h9)
          refine lv_iconst (v := 1) hx hb dX4_shoot_70 (by decide) ?_
          refine lv_goto (tgt := 75) hx hb dX4_shoot_71 (by decide) ?_
          refine lv_istore (lv' := [(6, .int 1), (5, .int (nI ck)), (4, .int 0), (3, .int (-1)), (0, .ref h0), (1, .ref p0), (2, .ref t0)]) hx hb dX4_shoot_75 hl (by decide) rfl (fun ls hl => ?_)
          exact join77 0 ck 1 (by omega) (by omega) (by unfold nSh; rw [if_neg (by omega)]) (by rw [if_pos (by omega)]) _ _ _ hP hD hS (lv_sub hl [4, 5, 6, 3, 2, 1, 0] rfl)
  · refine he_top (nI dk) (by rw [hmo, wd_eq hit36 hw6 (Or.inr ⟨dk, hdk, hdu⟩)]; exact hdu) ?_
    refine lv_istore_n (lv' := [(3, .int (nI dk)), (0, .ref h0), (1, .ref p0), (2, .ref t0)]) hx hb dX4_shoot_20 rfl hl (by decide) rfl (fun ls hl => ?_)
    have join77 : ∀ (fb : Int32) (c9 : Nat) (cl : Int32), (c9 ≤ 99) → (c9 = 0 ∨ 0 < w) → (c9 = nSh w ck) → (cl = if q2 ≤ 4 then 1 else 0) → (fb = f (18 + dk)) → ∀ (H : Heap) (locs : List Loc) (ls : Array Slot), va_P g.1 vwCl [(oX4 h0 q0 q1 mo), (aI g q0 24 f), (aI g q1 6 sh), (oX6 p0 p1 p2 p3 p4 (nI w)), (aI g p1 24 sd), (aI g p3 6 st), (aI g t1 6 pd), (oX5 t0 t1 t2 pw), (aI g t2 36 wb)] H → va_D A [(oX4 h0 q0 q1 mo), (aI g q0 24 f), (aI g q1 6 sh), (oX6 p0 p1 p2 p3 p4 (nI w)), (aI g p1 24 sd), (aI g p3 6 st), (aI g t1 6 pd), (oX5 t0 t1 t2 pw), (aI g t2 36 wb)] → va_S A s.heap H locs → lv_has ls 9 [(0, .ref h0), (1, .ref p0), (2, .ref t0), (3, .int (nI dk)), (4, .int fb), (5, .int (nI c9)), (6, .int cl)] → W p l e (he_room 3 60 0 0) s m args below meth c H locs 0 0 Q (F0 m 77 ls []) := by
      intro fb c9 cl hc9 hcw hc9e hcl hfb H locs ls hP hD hS hl
      refine lv_iconst (v := (-1)) hx hb dX4_shoot_77 (by decide) ?_
      refine lv_istore (lv' := [(7, .int (-1)), (0, .ref h0), (1, .ref p0), (2, .ref t0), (3, .int (nI dk)), (4, .int fb), (5, .int (nI c9)), (6, .int cl)]) hx hb dX4_shoot_78 hl (by decide) rfl (fun ls hl => ?_)
      refine lv_iconst (v := 1) hx hb dX4_shoot_80 (by decide) ?_
      refine lv_istore (lv' := [(8, .int 1), (7, .int (-1)), (0, .ref h0), (1, .ref p0), (2, .ref t0), (3, .int (nI dk)), (4, .int fb), (5, .int (nI c9)), (6, .int cl)]) hx hb dX4_shoot_81 hl (by decide) rfl (fun ls hl => ?_)
      have loop83 : ∀ (n9 : Nat) (n : Nat) (t : Int32) (F : Nat → Int32) (G : Nat → Int32), c9 + 1 - n < n9 → (n ≤ c9) → (shR T st (pd 4) (wb it) q2 w f sh n t F G) → ∀ (H : Heap) (locs : List Loc) (ls : Array Slot), va_P g.1 vwCl [(oX4 h0 q0 q1 mo), (aI g q0 24 F), (aI g q1 6 G), (oX6 p0 p1 p2 p3 p4 (nI w)), (aI g p1 24 sd), (aI g p3 6 st), (oX5 t0 t1 t2 pw), (aI g t1 6 pd), (aI g t2 36 wb)] H → va_D A [(oX4 h0 q0 q1 mo), (aI g q0 24 F), (aI g q1 6 G), (oX6 p0 p1 p2 p3 p4 (nI w)), (aI g p1 24 sd), (aI g p3 6 st), (oX5 t0 t1 t2 pw), (aI g t1 6 pd), (aI g t2 36 wb)] → va_S A s.heap H locs → lv_has ls 9 [(0, .ref h0), (1, .ref p0), (2, .ref t0), (3, .int (nI dk)), (4, .int fb), (5, .int (nI c9)), (6, .int cl), (7, .int t), (8, .int (nI (n + 1)))] → W p l e (he_room 3 60 0 0) s m args below meth c H locs 0 0 Q (F0 m 83 ls []) := by
        intro n9
        induction n9 with
        | zero => intro n t F G hm9; exact absurd hm9 (Nat.not_lt_zero _)
        | succ n9 ih83 =>
          intro n t F G hm9 hn hR H locs ls hP hD hS hl
          refine lv_iload hx hb dX4_shoot_83 (lv_at hl 8 rfl) ?_
          refine lv_iload hx hb dX4_shoot_85 (lv_at hl 5 rfl) ?_
          refine lv_icmp_gt (tgt := 197) hx hb dX4_shoot_87 (by decide) (fun c_29 => ?_) (fun c_29 => ?_)
          · have k_30 : c9 < n + 1 := (he_clt (a := c9) (b := n + 1) rfl rfl (by omega) (by omega)).mp c_29
            have hnn : n = nSh w ck := by omega
            refine lv_iload_n hx hb dX4_shoot_197 rfl (lv_at hl 3 rfl) ?_
            refine lv_iconst (v := (-1)) hx hb dX4_shoot_198 (by decide) ?_
            refine lv_icmp_eq (tgt := 227) hx hb dX4_shoot_199 (by decide) (fun c_31 => ?_) (fun c_31 => ?_)
            · exact absurd c_31 (nI_nm1 (by omega))
            · refine lv_aload_n hx hb dX4_shoot_202 rfl (lv_at hl 0 rfl) ?_
              refine va_get (v := .ref q0) (T := TX4) (N := 3) hx hb hts inX4 hown hK hP 0 rfl rfl 0 (by decide) f9 (fun _ h9 => h9) rfl dX4_shoot_203 ?_
              refine lv_bipush (v := 18) hx hb dX4_shoot_206 (by decide) ?_
              refine lv_iload_n hx hb dX4_shoot_208 rfl (lv_at hl 3 rfl) ?_
              refine lv_iadd hx hb dX4_shoot_209 ?_
              refine he_top (nI (18 + dk)) (nI_add 18 dk) ?_
              refine he_iald hx hb hK hP 1 rfl (18 + dk) rfl (by first | assumption | decide | omega) (by first | decide | assumption) (F (18 + dk)) rfl dX4_shoot_210 ?_
              refine lv_iload hx hb dX4_shoot_211 (lv_at hl 4 rfl) ?_
              refine lv_icmp_ne (tgt := 227) hx hb dX4_shoot_213 (by decide) (fun c_32 => ?_) (fun c_32 => ?_)
              · exact he_rv hQ hx hb hr hlk hP hD hS dX4_shoot_227 (Nat.le_of_ble_eq_true rfl) (Nat.le_of_ble_eq_true rfl) ((F, G)) (rfl) (⟨by dsimp only; rw [← hnn]; exact shR_e2 (by (try dsimp only); omega) hdu hR (fun h9 => c_32 (h9.trans hfb.symm)), by dsimp only; rw [← hnn]; exact hR.2.1⟩)
              · refine lv_aload_n hx hb dX4_shoot_216 rfl (lv_at hl 0 rfl) ?_
                refine va_get (v := .ref q0) (T := TX4) (N := 3) hx hb hts inX4 hown hK hP 0 rfl rfl 0 (by decide) f9 (fun _ h9 => h9) rfl dX4_shoot_217 ?_
                refine lv_bipush (v := 7) hx hb dX4_shoot_220 (by decide) ?_
                refine lv_dup2_11 hx hb dX4_shoot_222 rfl rfl ?_
                refine he_iald hx hb hK hP 1 rfl (7) (by decide) (by decide) (by first | decide | assumption) (F 7) rfl dX4_shoot_223 ?_
                refine lv_iconst (v := 1) hx hb dX4_shoot_224 (by decide) ?_
                refine lv_iadd hx hb dX4_shoot_225 ?_
                refine he_iast hx hb hK hP hD hS 1 rfl (7) (by decide) (by decide) (by first | decide | assumption) dX4_shoot_226 (fun H locs hP hD hS => ?_)
                have hP : va_P g.1 vwCl [(oX4 h0 q0 q1 mo), (aI g q0 24 (upd F 7 ((F 7) + 1))), (aI g q1 6 G), (oX6 p0 p1 p2 p3 p4 (nI w)), (aI g p1 24 sd), (aI g p3 6 st), (oX5 t0 t1 t2 pw), (aI g t1 6 pd), (aI g t2 36 wb)] H := hP
                have hD : va_D A [(oX4 h0 q0 q1 mo), (aI g q0 24 (upd F 7 ((F 7) + 1))), (aI g q1 6 G), (oX6 p0 p1 p2 p3 p4 (nI w)), (aI g p1 24 sd), (aI g p3 6 st), (oX5 t0 t1 t2 pw), (aI g t1 6 pd), (aI g t2 36 wb)] := hD
                exact he_rv hQ hx hb hr hlk hP hD hS dX4_shoot_227 (Nat.le_of_ble_eq_true rfl) (Nat.le_of_ble_eq_true rfl) ((upd F 7 ((F 7) + 1), G)) (rfl) (⟨by dsimp only; rw [← hnn]; exact shR_e1 (by (try dsimp only); omega) hdu (by (try dsimp only); omega) hR (c_32.trans hfb), by dsimp only; rw [← hnn]; exact hR.2.1⟩)
          · have k_33 : ¬ (c9 < n + 1) := fun h9 => c_29 ((he_clt (a := c9) (b := n + 1) rfl rfl (by omega) (by omega)).mpr h9)
            have hw0 : 0 < w := hcw.resolve_left (by omega)
            have join115 : ∀ (k : Nat), (k < 6) → (k = aimK (wb it) F w) → ∀ (H : Heap) (locs : List Loc) (ls : Array Slot), va_P g.1 vwCl [(oX4 h0 q0 q1 mo), (aI g q0 24 F), (aI g q1 6 G), (oX6 p0 p1 p2 p3 p4 (nI w)), (aI g p1 24 sd), (aI g p3 6 st), (oX5 t0 t1 t2 pw), (aI g t1 6 pd), (aI g t2 36 wb)] H → va_D A [(oX4 h0 q0 q1 mo), (aI g q0 24 F), (aI g q1 6 G), (oX6 p0 p1 p2 p3 p4 (nI w)), (aI g p1 24 sd), (aI g p3 6 st), (oX5 t0 t1 t2 pw), (aI g t1 6 pd), (aI g t2 36 wb)] → va_S A s.heap H locs → lv_has ls 9 [(0, .ref h0), (1, .ref p0), (2, .ref t0), (3, .int (nI dk)), (4, .int fb), (5, .int (nI c9)), (6, .int cl), (7, .int (nI k)), (8, .int (nI (n + 1)))] → W p l e (he_room 3 60 0 0) s m args below meth c H locs 0 0 Q (F0 m 115 ls []) := by
              intro k hk hka H locs ls hP hD hS hl
              refine lv_aload_n hx hb dX4_shoot_115 rfl (lv_at hl 0 rfl) ?_
              refine va_get (v := .ref q1) (T := TX4) (N := 3) hx hb hts inX4 hown hK hP 0 rfl rfl 1 (by decide) f15 (fun _ h9 => h9) rfl dX4_shoot_116 ?_
              refine lv_iload hx hb dX4_shoot_119 (lv_at hl 7 rfl) ?_
              refine lv_dup2_11 hx hb dX4_shoot_121 rfl rfl ?_
              refine he_iald hx hb hK hP 2 rfl (k) rfl (by first | assumption | decide | omega) (by first | decide | assumption) (G k) rfl dX4_shoot_122 ?_
              refine lv_iconst (v := 1) hx hb dX4_shoot_123 (by decide) ?_
              refine lv_iadd hx hb dX4_shoot_124 ?_
              refine he_iast hx hb hK hP hD hS 2 rfl (k) rfl (by first | assumption | decide | omega) (by first | decide | assumption) dX4_shoot_125 (fun H locs hP hD hS => ?_)
              have hP : va_P g.1 vwCl [(oX4 h0 q0 q1 mo), (aI g q0 24 F), (aI g q1 6 (upd G k ((G k) + 1))), (oX6 p0 p1 p2 p3 p4 (nI w)), (aI g p1 24 sd), (aI g p3 6 st), (oX5 t0 t1 t2 pw), (aI g t1 6 pd), (aI g t2 36 wb)] H := hP
              have hD : va_D A [(oX4 h0 q0 q1 mo), (aI g q0 24 F), (aI g q1 6 (upd G k ((G k) + 1))), (oX6 p0 p1 p2 p3 p4 (nI w)), (aI g p1 24 sd), (aI g p3 6 st), (oX5 t0 t1 t2 pw), (aI g t1 6 pd), (aI g t2 36 wb)] := hD
              refine lv_aload_n hx hb dX4_shoot_126 rfl (lv_at hl 0 rfl) ?_
              refine va_get (v := .ref q0) (T := TX4) (N := 3) hx hb hts inX4 hown hK hP 0 rfl rfl 0 (by decide) f9 (fun _ h9 => h9) rfl dX4_shoot_127 ?_
              refine lv_bipush (v := 9) hx hb dX4_shoot_130 (by decide) ?_
              refine lv_dup2_11 hx hb dX4_shoot_132 rfl rfl ?_
              refine he_iald hx hb hK hP 1 rfl (9) (by decide) (by decide) (by first | decide | assumption) (F 9) rfl dX4_shoot_133 ?_
              refine lv_iconst (v := 1) hx hb dX4_shoot_134 (by decide) ?_
              refine lv_iadd hx hb dX4_shoot_135 ?_
              refine he_iast hx hb hK hP hD hS 1 rfl (9) (by decide) (by decide) (by first | decide | assumption) dX4_shoot_136 (fun H locs hP hD hS => ?_)
              have hP : va_P g.1 vwCl [(oX4 h0 q0 q1 mo), (aI g q0 24 (upd F 9 ((F 9) + 1))), (aI g q1 6 (upd G k ((G k) + 1))), (oX6 p0 p1 p2 p3 p4 (nI w)), (aI g p1 24 sd), (aI g p3 6 st), (oX5 t0 t1 t2 pw), (aI g t1 6 pd), (aI g t2 36 wb)] H := hP
              have hD : va_D A [(oX4 h0 q0 q1 mo), (aI g q0 24 (upd F 9 ((F 9) + 1))), (aI g q1 6 (upd G k ((G k) + 1))), (oX6 p0 p1 p2 p3 p4 (nI w)), (aI g p1 24 sd), (aI g p3 6 st), (oX5 t0 t1 t2 pw), (aI g t1 6 pd), (aI g t2 36 wb)] := hD
              refine lv_aload_n hx hb dX4_shoot_137 rfl (lv_at hl 0 rfl) ?_
              refine va_get (v := .ref q0) (T := TX4) (N := 3) hx hb hts inX4 hown hK hP 0 rfl rfl 0 (by decide) f9 (fun _ h9 => h9) rfl dX4_shoot_138 ?_
              refine lv_bipush (v := 12) hx hb dX4_shoot_141 (by decide) ?_
              refine lv_iload hx hb dX4_shoot_143 (lv_at hl 7 rfl) ?_
              refine lv_iadd hx hb dX4_shoot_145 ?_
              refine he_top (nI (12 + k)) (nI_add 12 k) ?_
              refine lv_dup2_11 hx hb dX4_shoot_146 rfl rfl ?_
              refine he_iald hx hb hK hP 1 rfl (12 + k) rfl (by first | assumption | decide | omega) (by first | decide | assumption) ((upd F 9 ((F 9) + 1)) (12 + k)) rfl dX4_shoot_147 ?_
              have join165 : ∀ (dm : Int32), (dm = dmI q2 (n + 1)) → ∀ (H : Heap) (locs : List Loc) (ls : Array Slot), va_P g.1 vwCl [(oX4 h0 q0 q1 mo), (aI g q0 24 (upd F 9 ((F 9) + 1))), (aI g q1 6 (upd G k ((G k) + 1))), (oX6 p0 p1 p2 p3 p4 (nI w)), (aI g p1 24 sd), (aI g p3 6 st), (oX5 t0 t1 t2 pw), (aI g t1 6 pd), (aI g t2 36 wb)] H → va_D A [(oX4 h0 q0 q1 mo), (aI g q0 24 (upd F 9 ((F 9) + 1))), (aI g q1 6 (upd G k ((G k) + 1))), (oX6 p0 p1 p2 p3 p4 (nI w)), (aI g p1 24 sd), (aI g p3 6 st), (oX5 t0 t1 t2 pw), (aI g t1 6 pd), (aI g t2 36 wb)] → va_S A s.heap H locs → lv_has ls 9 [(0, .ref h0), (1, .ref p0), (2, .ref t0), (3, .int (nI dk)), (4, .int fb), (5, .int (nI c9)), (6, .int cl), (7, .int (nI k)), (8, .int (nI (n + 1)))] → W p l e (he_room 3 60 0 0) s m args below meth c H locs 0 0 Q (F0 m 165 ls [.int dm, .int ((upd F 9 ((F 9) + 1)) (12 + k)), .int (nI (12 + k)), .ref q0]) := by
                intro dm hdm H locs ls hP hD hS hl
                subst hdm
                refine lv_isub hx hb dX4_shoot_165 ?_
                refine he_iast hx hb hK hP hD hS 1 rfl (12 + k) rfl (by first | assumption | decide | omega) (by first | decide | assumption) dX4_shoot_166 (fun H locs hP hD hS => ?_)
                have hP : va_P g.1 vwCl [(oX4 h0 q0 q1 mo), (aI g q0 24 (upd (upd F 9 ((F 9) + 1)) (12 + k) (((upd F 9 ((F 9) + 1)) (12 + k)) - (dmI q2 (n + 1))))), (aI g q1 6 (upd G k ((G k) + 1))), (oX6 p0 p1 p2 p3 p4 (nI w)), (aI g p1 24 sd), (aI g p3 6 st), (oX5 t0 t1 t2 pw), (aI g t1 6 pd), (aI g t2 36 wb)] H := hP
                have hD : va_D A [(oX4 h0 q0 q1 mo), (aI g q0 24 (upd (upd F 9 ((F 9) + 1)) (12 + k) (((upd F 9 ((F 9) + 1)) (12 + k)) - (dmI q2 (n + 1))))), (aI g q1 6 (upd G k ((G k) + 1))), (oX6 p0 p1 p2 p3 p4 (nI w)), (aI g p1 24 sd), (aI g p3 6 st), (oX5 t0 t1 t2 pw), (aI g t1 6 pd), (aI g t2 36 wb)] := hD
                refine lv_aload_n hx hb dX4_shoot_167 rfl (lv_at hl 0 rfl) ?_
                refine va_get (v := .ref q0) (T := TX4) (N := 3) hx hb hts inX4 hown hK hP 0 rfl rfl 0 (by decide) f9 (fun _ h9 => h9) rfl dX4_shoot_168 ?_
                refine lv_bipush (v := 12) hx hb dX4_shoot_171 (by decide) ?_
                refine lv_iload hx hb dX4_shoot_173 (lv_at hl 7 rfl) ?_
                refine lv_iadd hx hb dX4_shoot_175 ?_
                refine he_top (nI (12 + k)) (nI_add 12 k) ?_
                refine he_iald hx hb hK hP 1 rfl (12 + k) rfl (by first | assumption | decide | omega) (by first | decide | assumption) ((upd (upd F 9 ((F 9) + 1)) (12 + k) (((upd F 9 ((F 9) + 1)) (12 + k)) - (dmI q2 (n + 1)))) (12 + k)) rfl dX4_shoot_176 ?_
                refine lv_if_gt (tgt := 191) hx hb dX4_shoot_177 (by decide) (fun c_34 => ?_) (fun c_34 => ?_)
                · refine lv_iinc (v := nI (n + 1 + 1)) (lv' := [(8, .int (nI (n + 1 + 1))), (0, .ref h0), (1, .ref p0), (2, .ref t0), (3, .int (nI dk)), (4, .int fb), (5, .int (nI c9)), (6, .int cl), (7, .int (nI k))]) hx hb dX4_shoot_191 hl (k := 8) rfl (nI_1 (n + 1)) (by decide) rfl (fun ls hl => ?_)
                  refine lv_goto (tgt := 83) hx hb dX4_shoot_194 (by decide) ?_
                  have hP : va_P g.1 vwCl [(oX4 h0 q0 q1 mo), (aI g q0 24 (hitF F k (dmI q2 (n + 1)))), (aI g q1 6 (upd G k (G k + 1))), (oX6 p0 p1 p2 p3 p4 (nI w)), (aI g p1 24 sd), (aI g p3 6 st), (oX5 t0 t1 t2 pw), (aI g t1 6 pd), (aI g t2 36 wb)] H := by skip; exact hP
                  have hD : va_D A [(oX4 h0 q0 q1 mo), (aI g q0 24 (hitF F k (dmI q2 (n + 1)))), (aI g q1 6 (upd G k (G k + 1))), (oX6 p0 p1 p2 p3 p4 (nI w)), (aI g p1 24 sd), (aI g p3 6 st), (oX5 t0 t1 t2 pw), (aI g t1 6 pd), (aI g t2 36 wb)] := by skip; exact hD
                  exact ih83 (n + 1) (nI k) (hitF F k (dmI q2 (n + 1))) (upd G k (G k + 1)) (by omega) (by omega) (shR_s hw0 hw6 hbw hR hka c_34) _ _ _ hP hD hS (lv_sub hl [1, 2, 3, 4, 5, 6, 7, 8, 0] rfl)
                · refine lv_aload_n hx hb dX4_shoot_180 rfl (lv_at hl 0 rfl) ?_
                  refine lv_aload_n hx hb dX4_shoot_181 rfl (lv_at hl 1 rfl) ?_
                  refine lv_aload_n hx hb dX4_shoot_182 rfl (lv_at hl 2 rfl) ?_
                  refine lv_iload hx hb dX4_shoot_183 (lv_at hl 7 rfl) ?_
                  refine he_cv (wc := [(oX4 h0 q0 q1 mo), (aI g q0 24 (upd (upd F 9 ((F 9) + 1)) (12 + k) (((upd F 9 ((F 9) + 1)) (12 + k)) - (dmI q2 (n + 1))))), (oX6 p0 p1 p2 p3 p4 (nI w)), (aI g p1 24 sd), (aI g p3 6 st), (oX5 t0 t1 t2 pw), (aI g t1 6 pd)]) (wr := [(aI g q1 6 (upd G k ((G k) + 1))), (aI g t2 36 wb)]) (va_runV (As := [.ref p0, .ref t0, .int (nI k)]) (rest := []) ⟨hx, hb, hml, hown, hts⟩ (s_X4_breach l g h0 q0 q1 mo (upd (upd F 9 ((F 9) + 1)) (12 + k) (((upd F 9 ((F 9) + 1)) (12 + k)) - (dmI q2 (n + 1)))) p0 p1 p2 p3 p4 (nI w) sd st t0 t1 t2 pw pd k (by first | assumption | decide | omega) H.size) (cwV 3 hts gX4_shoot_X4_breach rfl rfl rfl (by decide +kernel) ⟨Nat.le_of_ble_eq_true rfl, Nat.le_of_ble_eq_true rfl⟩) (he_preV (wc := [(oX4 h0 q0 q1 mo), (aI g q0 24 (upd (upd F 9 ((F 9) + 1)) (12 + k) (((upd F 9 ((F 9) + 1)) (12 + k)) - (dmI q2 (n + 1))))), (oX6 p0 p1 p2 p3 p4 (nI w)), (aI g p1 24 sd), (aI g p3 6 st), (oX5 t0 t1 t2 pw), (aI g t1 6 pd)]) hK hP hD hS hA hE [0, 1, 3, 4, 5, 6, 7] rfl rfl 0 rfl rfl) rfl rfl hl.1 rfl (lv_room (Nat.le_of_ble_eq_true rfl)) dX4_shoot_185 ⟨(Nat.le_of_ble_eq_true rfl), (Nat.le_of_ble_eq_true rfl)⟩) hP hD hS hA [0, 1, 3, 4, 5, 6, 7] [2, 8] rfl rfl rfl (by decide) (fun u_36 H locs h_37 hP hD hS => ?_)
                  have hP : va_P g.1 vwCl [(aI g q1 6 (upd G k ((G k) + 1))), (aI g t2 36 wb), (oX4 h0 q0 q1 mo), (aI g q0 24 (mvF (frF (upd (upd (upd (upd (upd F 9 ((F 9) + 1)) (12 + k) (((upd F 9 ((F 9) + 1)) (12 + k)) - (dmI q2 (n + 1)))) 6 ((upd (upd F 9 ((F 9) + 1)) (12 + k) (((upd F 9 ((F 9) + 1)) (12 + k)) - (dmI q2 (n + 1)))) 6 + 1)) (18 + k) (upd (upd (upd F 9 ((F 9) + 1)) (12 + k) (((upd F 9 ((F 9) + 1)) (12 + k)) - (dmI q2 (n + 1)))) 6 ((upd (upd F 9 ((F 9) + 1)) (12 + k) (((upd F 9 ((F 9) + 1)) (12 + k)) - (dmI q2 (n + 1)))) 6 + 1) (18 + k) + 1)) (12 + k) (st k)) (sd 13)) 0 1 (pd 4))), (oX6 p0 p1 p2 p3 p4 (nI w)), (aI g p1 24 sd), (aI g p3 6 st), (oX5 t0 t1 t2 pw), (aI g t1 6 pd)] H := hP
                  have hD : va_D A [(aI g q1 6 (upd G k ((G k) + 1))), (aI g t2 36 wb), (oX4 h0 q0 q1 mo), (aI g q0 24 (mvF (frF (upd (upd (upd (upd (upd F 9 ((F 9) + 1)) (12 + k) (((upd F 9 ((F 9) + 1)) (12 + k)) - (dmI q2 (n + 1)))) 6 ((upd (upd F 9 ((F 9) + 1)) (12 + k) (((upd F 9 ((F 9) + 1)) (12 + k)) - (dmI q2 (n + 1)))) 6 + 1)) (18 + k) (upd (upd (upd F 9 ((F 9) + 1)) (12 + k) (((upd F 9 ((F 9) + 1)) (12 + k)) - (dmI q2 (n + 1)))) 6 ((upd (upd F 9 ((F 9) + 1)) (12 + k) (((upd F 9 ((F 9) + 1)) (12 + k)) - (dmI q2 (n + 1)))) 6 + 1) (18 + k) + 1)) (12 + k) (st k)) (sd 13)) 0 1 (pd 4))), (oX6 p0 p1 p2 p3 p4 (nI w)), (aI g p1 24 sd), (aI g p3 6 st), (oX5 t0 t1 t2 pw), (aI g t1 6 pd)] := hD
                  refine lv_iconst (v := (-1)) hx hb dX4_shoot_188 (by decide) ?_
                  refine lv_istore (lv' := [(7, .int (-1)), (0, .ref h0), (1, .ref p0), (2, .ref t0), (3, .int (nI dk)), (4, .int fb), (5, .int (nI c9)), (6, .int cl), (8, .int (nI (n + 1)))]) hx hb dX4_shoot_189 hl (by decide) rfl (fun ls hl => ?_)
                  refine lv_iinc (v := nI (n + 1 + 1)) (lv' := [(8, .int (nI (n + 1 + 1))), (7, .int (-1)), (0, .ref h0), (1, .ref p0), (2, .ref t0), (3, .int (nI dk)), (4, .int fb), (5, .int (nI c9)), (6, .int cl)]) hx hb dX4_shoot_191 hl (k := 8) rfl (nI_1 (n + 1)) (by decide) rfl (fun ls hl => ?_)
                  refine lv_goto (tgt := 83) hx hb dX4_shoot_194 (by decide) ?_
                  have hP : va_P g.1 vwCl [(aI g q1 6 (upd G k (G k + 1))), (aI g t2 36 wb), (oX4 h0 q0 q1 mo), (aI g q0 24 (rBr T st (pd 4) (hitF F k (dmI q2 (n + 1))) k)), (oX6 p0 p1 p2 p3 p4 (nI w)), (aI g p1 24 sd), (aI g p3 6 st), (oX5 t0 t1 t2 pw), (aI g t1 6 pd)] H := by rw [← br_eq sd st T (pd 4) (hitF F k (dmI q2 (n + 1))) k hk hT10]; exact hP
                  have hD : va_D A [(aI g q1 6 (upd G k (G k + 1))), (aI g t2 36 wb), (oX4 h0 q0 q1 mo), (aI g q0 24 (rBr T st (pd 4) (hitF F k (dmI q2 (n + 1))) k)), (oX6 p0 p1 p2 p3 p4 (nI w)), (aI g p1 24 sd), (aI g p3 6 st), (oX5 t0 t1 t2 pw), (aI g t1 6 pd)] := by rw [← br_eq sd st T (pd 4) (hitF F k (dmI q2 (n + 1))) k hk hT10]; exact hD
                  exact ih83 (n + 1) (-1) (rBr T st (pd 4) (hitF F k (dmI q2 (n + 1))) k) (upd G k (G k + 1)) (by omega) (by omega) (shR_b hw0 hw6 hbw hst (by omega) hR hka c_34) _ _ _ (hP.sub [2, 3, 0, 4, 5, 6, 7, 8, 1] rfl) (hD.sub [2, 3, 0, 4, 5, 6, 7, 8, 1] (by decide) rfl) hS (lv_sub hl [2, 3, 4, 5, 6, 7, 8, 1, 0] rfl)
              refine lv_iload hx hb dX4_shoot_148 (lv_at hl 6 rfl) ?_
              refine lv_if_eq (tgt := 164) hx hb dX4_shoot_150 (by decide) (fun c_38 => ?_) (fun c_38 => ?_)
              · refine lv_iconst (v := 1) hx hb dX4_shoot_164 (by decide) ?_
                exact join165 1 (dm_a hcl c_38) _ _ _ hP hD hS (lv_sub hl [0, 1, 2, 3, 4, 5, 6, 7, 8] rfl)
              · refine lv_iload hx hb dX4_shoot_153 (lv_at hl 8 rfl) ?_
                refine lv_iconst (v := 2) hx hb dX4_shoot_155 (by decide) ?_
                refine lv_irem hx hb dX4_shoot_156 (by decide) ?_
                refine lv_if_ne (tgt := 164) hx hb dX4_shoot_157 (by decide) (fun c_39 => ?_) (fun c_39 => ?_)
                · refine lv_iconst (v := 1) hx hb dX4_shoot_164 (by decide) ?_
                  exact join165 1 (dm_b (by omega) c_39) _ _ _ hP hD hS (lv_sub hl [0, 1, 2, 3, 4, 5, 6, 7, 8] rfl)
                · refine lv_iconst (v := 2) hx hb dX4_shoot_160 (by decide) ?_
                  refine lv_goto (tgt := 165) hx hb dX4_shoot_161 (by decide) ?_
                  exact join165 2 (dm_c hcl c_38 (by omega) c_39) _ _ _ hP hD hS (lv_sub hl [0, 1, 2, 3, 4, 5, 6, 7, 8] rfl)
            refine lv_iload hx hb dX4_shoot_90 (lv_at hl 7 rfl) ?_
            refine lv_iconst (v := (-1)) hx hb dX4_shoot_92 (by decide) ?_
            refine lv_icmp_ne (tgt := 115) hx hb dX4_shoot_93 (by decide) (fun c_40 => ?_) (fun c_40 => ?_)
            · obtain ⟨k, hk, rfl, hka⟩ := hR.2.2.1.resolve_left c_40
              exact join115 k hk hka _ _ _ hP hD hS (lv_sub hl [0, 1, 2, 3, 4, 5, 6, 7, 8] rfl)
            · refine lv_iload_n hx hb dX4_shoot_96 rfl (lv_at hl 3 rfl) ?_
              refine lv_iconst (v := (-1)) hx hb dX4_shoot_97 (by decide) ?_
              refine lv_icmp_ne (tgt := 112) hx hb dX4_shoot_98 (by decide) (fun c_41 => ?_) (fun c_41 => ?_)
              · refine lv_iload_n hx hb dX4_shoot_112 rfl (lv_at hl 3 rfl) ?_
                refine lv_istore (lv' := [(7, .int (nI dk)), (0, .ref h0), (1, .ref p0), (2, .ref t0), (3, .int (nI dk)), (4, .int fb), (5, .int (nI c9)), (6, .int cl), (8, .int (nI (n + 1)))]) hx hb dX4_shoot_113 hl (by decide) rfl (fun ls hl => ?_)
                exact join115 dk (by omega) (by unfold aimK; rw [hdu, if_neg (nI_nm1 (by omega)), nI_clamp (by omega)]) _ _ _ hP hD hS (lv_sub hl [1, 2, 3, 4, 5, 6, 7, 0, 8] rfl)
              · exact absurd c_41 (nI_nm1 (by omega))
      exact loop83 ((c9 + 1 - 0) + 1) 0 (-1) f sh (Nat.lt_succ_self _) (Nat.zero_le _) (shR_0 hBd) _ _ _ (hP.sub [0, 1, 2, 3, 4, 5, 7, 6, 8] rfl) (hD.sub [0, 1, 2, 3, 4, 5, 7, 6, 8] (by decide) rfl) hS (lv_sub hl [2, 3, 4, 5, 6, 7, 8, 1, 0] rfl)
    refine lv_iload_n hx hb dX4_shoot_21 rfl (lv_at hl 0 rfl) ?_
    refine lv_iconst (v := (-1)) hx hb dX4_shoot_22 (by decide) ?_
    refine lv_icmp_ne (tgt := 30) hx hb dX4_shoot_23 (by decide) (fun c_42 => ?_) (fun c_42 => ?_)
    · refine lv_aload_n hx hb dX4_shoot_30 rfl (lv_at hl 1 rfl) ?_
      refine va_get (v := .ref q0) (T := TX4) (N := 3) hx hb hts inX4 hown hK hP 0 rfl rfl 0 (by decide) f9 (fun _ h9 => h9) rfl dX4_shoot_31 ?_
      refine lv_bipush (v := 18) hx hb dX4_shoot_34 (by decide) ?_
      refine lv_iload_n hx hb dX4_shoot_36 rfl (lv_at hl 0 rfl) ?_
      refine lv_iadd hx hb dX4_shoot_37 ?_
      refine he_top (nI (18 + dk)) (nI_add 18 dk) ?_
      refine he_iald hx hb hK hP 1 rfl (18 + dk) rfl (by first | assumption | decide | omega) (by first | decide | assumption) (f (18 + dk)) rfl dX4_shoot_38 ?_
      refine lv_istore (lv' := [(4, .int (f (18 + dk))), (3, .int (nI dk)), (0, .ref h0), (1, .ref p0), (2, .ref t0)]) hx hb dX4_shoot_39 hl (by decide) rfl (fun ls hl => ?_)
      refine lv_aload_n hx hb dX4_shoot_41 rfl (lv_at hl 3 rfl) ?_
      refine va_get (v := .int (nI w)) (T := TX6) (N := 5) hx hb hts inX6 hown hK hP 3 rfl rfl 4 (by decide) f33 (fun _ h9 => h9) rfl dX4_shoot_42 ?_
      refine lv_if_le (tgt := 57) hx hb dX4_shoot_45 (by decide) (fun c_43 => ?_) (fun c_43 => ?_)
      · have k_44 : w ≤ 0 := (he_cle (a := w) (b := 0) rfl (by decide) (by omega) (by omega)).mp c_43
        refine lv_iconst (v := 0) hx hb dX4_shoot_57 (by decide) ?_
        refine lv_istore (lv' := [(5, .int 0), (4, .int (f (18 + dk))), (3, .int (nI dk)), (0, .ref h0), (1, .ref p0), (2, .ref t0)]) hx hb dX4_shoot_58 hl (by decide) rfl (fun ls hl => ?_)
        refine lv_aload_n hx hb dX4_shoot_60 rfl (lv_at hl 5 rfl) ?_
        refine va_get (v := .ref t1) (T := TX5) (N := 3) hx hb hts inX5 hown hK hP 7 rfl rfl 0 (by decide) f57 (fun _ h9 => h9) rfl dX4_shoot_61 ?_
        refine lv_iconst (v := 2) hx hb dX4_shoot_64 (by decide) ?_
        refine he_iald hx hb hK hP 6 rfl (2) (by decide) (by decide) (by first | decide | assumption) (nI q2) hq2 dX4_shoot_65 ?_
        refine lv_iconst (v := 4) hx hb dX4_shoot_66 (by decide) ?_
        refine lv_icmp_gt (tgt := 74) hx hb dX4_shoot_67 (by decide) (fun c_45 => ?_) (fun c_45 => ?_)
        · have k_46 : 4 < q2 := (he_clt (a := 4) (b := q2) (by decide) rfl (by omega) (by omega)).mp c_45
          refine lv_iconst (v := 0) hx hb dX4_shoot_74 (by decide) ?_
          refine lv_istore (lv' := [(6, .int 0), (5, .int 0), (4, .int (f (18 + dk))), (3, .int (nI dk)), (0, .ref h0), (1, .ref p0), (2, .ref t0)]) hx hb dX4_shoot_75 hl (by decide) rfl (fun ls hl => ?_)
          exact join77 (f (18 + dk)) 0 0 (by omega) (by omega) (by unfold nSh; rw [if_pos (by omega)]) (by rw [if_neg (by omega)]) rfl _ _ _ hP hD hS (lv_sub hl [4, 5, 6, 3, 2, 1, 0] rfl)
        · have k_47 : ¬ (4 < q2) := fun h9 => c_45 ((he_clt (a := 4) (b := q2) (by decide) rfl (by omega) (by omega)).mpr h9)
          refine lv_iconst (v := 1) hx hb dX4_shoot_70 (by decide) ?_
          refine lv_goto (tgt := 75) hx hb dX4_shoot_71 (by decide) ?_
          refine lv_istore (lv' := [(6, .int 1), (5, .int 0), (4, .int (f (18 + dk))), (3, .int (nI dk)), (0, .ref h0), (1, .ref p0), (2, .ref t0)]) hx hb dX4_shoot_75 hl (by decide) rfl (fun ls hl => ?_)
          exact join77 (f (18 + dk)) 0 1 (by omega) (by omega) (by unfold nSh; rw [if_pos (by omega)]) (by rw [if_pos (by omega)]) rfl _ _ _ hP hD hS (lv_sub hl [4, 5, 6, 3, 2, 1, 0] rfl)
      · have k_48 : ¬ (w ≤ 0) := fun h9 => c_43 ((he_cle (a := w) (b := 0) rfl (by decide) (by omega) (by omega)).mpr h9)
        refine lv_aload_n hx hb dX4_shoot_48 rfl (lv_at hl 4 rfl) ?_
        refine va_get (v := .ref t1) (T := TX5) (N := 3) hx hb hts inX5 hown hK hP 7 rfl rfl 0 (by decide) f57 (fun _ h9 => h9) rfl dX4_shoot_49 ?_
        refine lv_iconst (v := 3) hx hb dX4_shoot_52 (by decide) ?_
        refine he_iald hx hb hK hP 6 rfl (3) (by decide) (by decide) (by first | decide | assumption) (nI ck) hck dX4_shoot_53 ?_
        refine lv_goto (tgt := 58) hx hb dX4_shoot_54 (by decide) ?_
        refine lv_istore (lv' := [(5, .int (nI ck)), (4, .int (f (18 + dk))), (3, .int (nI dk)), (0, .ref h0), (1, .ref p0), (2, .ref t0)]) hx hb dX4_shoot_58 hl (by decide) rfl (fun ls hl => ?_)
        refine lv_aload_n hx hb dX4_shoot_60 rfl (lv_at hl 5 rfl) ?_
        refine va_get (v := .ref t1) (T := TX5) (N := 3) hx hb hts inX5 hown hK hP 7 rfl rfl 0 (by decide) f57 (fun _ h9 => h9) rfl dX4_shoot_61 ?_
        refine lv_iconst (v := 2) hx hb dX4_shoot_64 (by decide) ?_
        refine he_iald hx hb hK hP 6 rfl (2) (by decide) (by decide) (by first | decide | assumption) (nI q2) hq2 dX4_shoot_65 ?_
        refine lv_iconst (v := 4) hx hb dX4_shoot_66 (by decide) ?_
        refine lv_icmp_gt (tgt := 74) hx hb dX4_shoot_67 (by decide) (fun c_49 => ?_) (fun c_49 => ?_)
        · have k_50 : 4 < q2 := (he_clt (a := 4) (b := q2) (by decide) rfl (by omega) (by omega)).mp c_49
          refine lv_iconst (v := 0) hx hb dX4_shoot_74 (by decide) ?_
          refine lv_istore (lv' := [(6, .int 0), (5, .int (nI ck)), (4, .int (f (18 + dk))), (3, .int (nI dk)), (0, .ref h0), (1, .ref p0), (2, .ref t0)]) hx hb dX4_shoot_75 hl (by decide) rfl (fun ls hl => ?_)
          exact join77 (f (18 + dk)) ck 0 (by omega) (by omega) (by unfold nSh; rw [if_neg (by omega)]) (by rw [if_neg (by omega)]) rfl _ _ _ hP hD hS (lv_sub hl [4, 5, 6, 3, 2, 1, 0] rfl)
        · have k_51 : ¬ (4 < q2) := fun h9 => c_49 ((he_clt (a := 4) (b := q2) (by decide) rfl (by omega) (by omega)).mpr h9)
          refine lv_iconst (v := 1) hx hb dX4_shoot_70 (by decide) ?_
          refine lv_goto (tgt := 75) hx hb dX4_shoot_71 (by decide) ?_
          refine lv_istore (lv' := [(6, .int 1), (5, .int (nI ck)), (4, .int (f (18 + dk))), (3, .int (nI dk)), (0, .ref h0), (1, .ref p0), (2, .ref t0)]) hx hb dX4_shoot_75 hl (by decide) rfl (fun ls hl => ?_)
          exact join77 (f (18 + dk)) ck 1 (by omega) (by omega) (by unfold nSh; rw [if_neg (by omega)]) (by rw [if_pos (by omega)]) rfl _ _ _ hP hD hS (lv_sub hl [4, 5, 6, 3, 2, 1, 0] rfl)
    · exact absurd c_42 (nI_nm1 (by omega))
set_option maxHeartbeats 4000000 in
set_option maxRecDepth 100000 in
theorem s_X4_passP (l : Launch) (g : he_G) (h0 : Nat) (q0 : Nat) (q1 : Nat) (mm : Nat) (f : Nat → Int32) (sh : Nat → Int32) (p0 : Nat) (p1 : Nat) (p2 : Nat) (p3 : Nat) (p4 : Nat) (w : Nat) (sd : Nat → Int32) (fn : Nat → Int32) (st : Nat → Int32) (me : Nat → Int32) (t0 : Nat) (t1 : Nat) (t2 : Nat) (pw : Int32) (pd : Nat → Int32) (wb : Nat → Int32) (ck : Nat) (q2 : Nat) (sg : Nat) (q5 : Nat) (hw6 : w ≤ 6) (hck : pd 3 = nI ck) (hc99 : ck ≤ 99) (hq2 : pd 2 = nI q2) (hq9 : q2 ≤ 9) (hq5 : pd 5 = nI q5) (hq36 : q5 ≤ 36) (h11 : f 11 = nI sg) (hsg : sg ≤ mm) (hiq : mm - sg < q5) (hbw : wb (mm - sg) = -1 ∨ ∃ k, k < w ∧ wb (mm - sg) = nI k) (hT : bdT (tOf sd fn)) (hC : bdC (cOf pd)) (hBd : bdF w st f) (hm : mm < 1000) : he_V l yX4_pass wsX4_pass 4 88 0 0 g [.ref h0, .ref p0, .ref t0] [(oX4 h0 q0 q1 (nI mm)), (aI g q0 24 f), (aI g q1 6 sh), (oX6 p0 p1 p2 p3 p4 (nI w)), (aI g p1 24 sd), (aI g p2 10 fn), (aI g p3 6 st), (aI g p4 6 me), (oX5 t0 t1 t2 pw), (aI g t1 6 pd), (aI g t2 36 wb)] (fun (u : (Nat → Int32) × (Nat → Int32)) => (eqP nP u.1 (rMonP (tOf sd fn) st me (cOf pd) (wb (mm - sg)) q2 ck q5 (mm - sg) w mm f (flF (fun _ => 0) sh 6))) ∧ (∀ j, j < 6 → u.2 j = (rMonG (tOf sd fn) st (cOf pd) (wb (mm - sg)) q2 ck w mm f (flF (fun _ => 0) sh 6)) j) ∧ u.1 11 = f 11) (fun (u : (Nat → Int32) × (Nat → Int32)) => [(oX4 h0 q0 q1 (nI (mm + 1))), (aI g q0 24 u.1), (aI g q1 6 u.2), (oX6 p0 p1 p2 p3 p4 (nI w)), (aI g p1 24 sd), (aI g p2 10 fn), (aI g p3 6 st), (aI g p4 6 me), (oX5 t0 t1 t2 pw), (aI g t1 6 pd), (aI g t2 36 wb)]) := by
  refine he_begin (l := l) (g := g) (y := yX4_pass) (wl := wsX4_pass) (fr := 4) (lo := 88) (mc := 0) (ms := 0) (av := [.ref h0, .ref p0, .ref t0]) (ws := [(oX4 h0 q0 q1 (nI mm)), (aI g q0 24 f), (aI g q1 6 sh), (oX6 p0 p1 p2 p3 p4 (nI w)), (aI g p1 24 sd), (aI g p2 10 fn), (aI g p3 6 st), (aI g p4 6 me), (oX5 t0 t1 t2 pw), (aI g t1 6 pd), (aI g t2 36 wb)]) (cc := cX4_pass) (maxL := 3) (ret := none) (fun A => va_Qv (fun (u : (Nat → Int32) × (Nat → Int32)) => (eqP nP u.1 (rMonP (tOf sd fn) st me (cOf pd) (wb (mm - sg)) q2 ck q5 (mm - sg) w mm f (flF (fun _ => 0) sh 6))) ∧ (∀ j, j < 6 → u.2 j = (rMonG (tOf sd fn) st (cOf pd) (wb (mm - sg)) q2 ck w mm f (flF (fun _ => 0) sh 6)) j) ∧ u.1 11 = f 11) (fun u t => he_post g A ((fun (u : (Nat → Int32) × (Nat → Int32)) => [(oX4 h0 q0 q1 (nI (mm + 1))), (aI g q0 24 u.1), (aI g q1 6 u.2), (oX6 p0 p1 p2 p3 p4 (nI w)), (aI g p1 24 sd), (aI g p2 10 fn), (aI g p3 6 st), (aI g p4 6 me), (oX5 t0 t1 t2 pw), (aI g t1 6 pd), (aI g t2 36 wb)]) u) t) A) (by decide) rfl (Nat.le_of_ble_eq_true rfl) ?_
  intro p e s m args below meth c A ls H locs Q hQ hB
  obtain ⟨hx, hb, hr, hml, hown, hts, hlk, hin, hP, hK, hD, hS, hA, hE, hl⟩ := hB
  have hl : lv_has ls 3 [(0, .ref h0), (1, .ref p0), (2, .ref t0)] := hl
  have f15 := hts (.fieldLink RX4 15 "HiredEnemy$Course" "shot" "[I") (iwoX4_pass (k := 0) rfl)
  have inX4 : ∀ w ∈ wsX40, w ∈ wsX4_pass := innX4_pass_X4
  have f9 := hts (.fieldLink RX4 9 "HiredEnemy$Course" "now" "[I") (iwoX4_pass (k := 1) rfl)
  have f28 := hts (.fieldLink RX4 28 "HiredEnemy$Plan" "said" "[I") (iwoX4_pass (k := 2) rfl)
  have inX6 : ∀ w ∈ wsX60, w ∈ wsX4_pass := innX4_pass_X6
  have ml68 := hts (.methodLink RX4 68 Lib.Math.max.name) (iwoX4_pass (k := 4) rfl)
  have msmax := hts (.static Lib.Math.max.name) (iwoX4_pass (k := 5) rfl)
  have mi := hts (.initialized "java/lang/Math") (iwoX4_pass (k := 6) rfl)
  have mcmax := hts (.code Lib.Math.max.name Lib.Math.max.code 2 (some .int)) (iwoX4_pass (k := 7) rfl)
  have f18 := hts (.fieldLink RX4 18 "HiredEnemy$Course" "month" "I") (iwoX4_pass (k := 8) rfl)
  have f57 := hts (.fieldLink RX4 57 "HiredEnemy$Pact" "said" "[I") (iwoX4_pass (k := 3) rfl)
  have inX5 : ∀ w ∈ wsX50, w ∈ wsX4_pass := innX4_pass_X5
  refine lv_aload_n hx hb dX4_pass_0 rfl (lv_at hl 0 rfl) ?_
  refine va_get (v := .ref q1) (T := TX4) (N := 3) hx hb hts inX4 hown hK hP 0 rfl rfl 1 (by decide) f15 (fun _ h9 => h9) rfl dX4_pass_1 ?_
  refine lv_iconst (v := 0) hx hb dX4_pass_4 (by decide) ?_
  refine he_cv (wc := [(aI g q1 6 sh)]) (wr := [(oX4 h0 q0 q1 (nI mm)), (aI g q0 24 f), (oX6 p0 p1 p2 p3 p4 (nI w)), (aI g p1 24 sd), (aI g p2 10 fn), (aI g p3 6 st), (aI g p4 6 me), (oX5 t0 t1 t2 pw), (aI g t1 6 pd), (aI g t2 36 wb)]) (va_runS (As := [.ref q1, .int 0]) (rest := []) ⟨hx, hb, hml, hown, hts⟩ (c_J7_fill_53178 l g q1 6 sh 0 (by first | assumption | decide | omega) H.size) (va_cwS 2 hts gX4_pass_J7_fill_53178 rfl rfl rfl (by decide +kernel) ⟨Nat.le_of_ble_eq_true rfl, Nat.le_of_ble_eq_true rfl⟩) (he_preS (wc := [(aI g q1 6 sh)]) hK hP hD hS hA hE [2] rfl rfl) rfl rfl hl.1 rfl (lv_room (Nat.le_of_ble_eq_true rfl)) dX4_pass_5 ⟨(Nat.le_of_ble_eq_true rfl), (Nat.le_of_ble_eq_true rfl)⟩) hP hD hS hA [2] [0, 1, 3, 4, 5, 6, 7, 8, 9, 10] rfl rfl rfl (by decide) (fun u_2 H locs h_3 hP hD hS => ?_)
  have hP : va_P g.1 vwCl [(oX4 h0 q0 q1 (nI mm)), (aI g q0 24 f), (oX6 p0 p1 p2 p3 p4 (nI w)), (aI g p1 24 sd), (aI g p2 10 fn), (aI g p3 6 st), (aI g p4 6 me), (oX5 t0 t1 t2 pw), (aI g t1 6 pd), (aI g t2 36 wb), (aI g q1 6 (flF (fun _ => 0) sh 6))] H := hP
  have hD : va_D A [(oX4 h0 q0 q1 (nI mm)), (aI g q0 24 f), (oX6 p0 p1 p2 p3 p4 (nI w)), (aI g p1 24 sd), (aI g p2 10 fn), (aI g p3 6 st), (aI g p4 6 me), (oX5 t0 t1 t2 pw), (aI g t1 6 pd), (aI g t2 36 wb), (aI g q1 6 (flF (fun _ => 0) sh 6))] := hD
  refine lv_aload_n hx hb dX4_pass_8 rfl (lv_at hl 0 rfl) ?_
  refine lv_iconst (v := 2) hx hb dX4_pass_9 (by decide) ?_
  refine lv_iconst (v := 0) hx hb dX4_pass_10 (by decide) ?_
  refine lv_aload_n hx hb dX4_pass_11 rfl (lv_at hl 0 rfl) ?_
  refine va_get (v := .ref q0) (T := TX4) (N := 3) hx hb hts inX4 hown hK hP 0 rfl rfl 0 (by decide) f9 (fun _ h9 => h9) rfl dX4_pass_12 ?_
  refine lv_iconst (v := 3) hx hb dX4_pass_15 (by decide) ?_
  refine he_iald hx hb hK hP 1 rfl (3) (by decide) (by decide) (by first | decide | assumption) (f 3) rfl dX4_pass_16 ?_
  refine lv_aload_n hx hb dX4_pass_17 rfl (lv_at hl 1 rfl) ?_
  refine va_get (v := .ref p1) (T := TX6) (N := 5) hx hb hts inX6 hown hK hP 2 rfl rfl 0 (by decide) f28 (fun _ h9 => h9) rfl dX4_pass_18 ?_
  refine lv_bipush (v := 10) hx hb dX4_pass_21 (by decide) ?_
  refine he_iald hx hb hK hP 3 rfl (10) (by decide) (by decide) (by first | decide | assumption) (sd 10) rfl dX4_pass_23 ?_
  refine lv_imul hx hb dX4_pass_24 ?_
  refine lv_aload_n hx hb dX4_pass_25 rfl (lv_at hl 0 rfl) ?_
  refine va_get (v := .ref q0) (T := TX4) (N := 3) hx hb hts inX4 hown hK hP 0 rfl rfl 0 (by decide) f9 (fun _ h9 => h9) rfl dX4_pass_26 ?_
  refine lv_iconst (v := 5) hx hb dX4_pass_29 (by decide) ?_
  refine he_iald hx hb hK hP 1 rfl (5) (by decide) (by decide) (by first | decide | assumption) (f 5) rfl dX4_pass_30 ?_
  refine lv_imul hx hb dX4_pass_31 ?_
  refine lv_sipush (v := 10000) hx hb dX4_pass_32 (by decide) ?_
  refine lv_idiv hx hb dX4_pass_35 (by decide) ?_
  refine he_cv (wc := [(oX4 h0 q0 q1 (nI mm)), (aI g q0 24 f)]) (wr := [(oX6 p0 p1 p2 p3 p4 (nI w)), (aI g p1 24 sd), (aI g p2 10 fn), (aI g p3 6 st), (aI g p4 6 me), (oX5 t0 t1 t2 pw), (aI g t1 6 pd), (aI g t2 36 wb), (aI g q1 6 (flF (fun _ => 0) sh 6))]) (va_runV (As := [.int 2, .int 0, .int ((((f 3) * (sd 10)) * (f 5)) / 10000)]) (rest := []) ⟨hx, hb, hml, hown, hts⟩ (c_X4_move l g h0 q0 q1 (nI mm) f 2 0 ((((f 3) * (sd 10)) * (f 5)) / 10000) (by first | assumption | decide | omega) (by first | assumption | decide | omega) H.size) (cwV 3 hts gX4_pass_X4_move rfl rfl rfl (by decide +kernel) ⟨Nat.le_of_ble_eq_true rfl, Nat.le_of_ble_eq_true rfl⟩) (he_preV (wc := [(oX4 h0 q0 q1 (nI mm)), (aI g q0 24 f)]) hK hP hD hS hA hE [0, 1] rfl rfl 0 rfl rfl) rfl rfl hl.1 rfl (lv_room (Nat.le_of_ble_eq_true rfl)) dX4_pass_36 ⟨(Nat.le_of_ble_eq_true rfl), (Nat.le_of_ble_eq_true rfl)⟩) hP hD hS hA [0, 1] [2, 3, 4, 5, 6, 7, 8, 9, 10] rfl rfl rfl (by decide) (fun u_5 H locs h_6 hP hD hS => ?_)
  have hP : va_P g.1 vwCl [(oX6 p0 p1 p2 p3 p4 (nI w)), (aI g p1 24 sd), (aI g p2 10 fn), (aI g p3 6 st), (aI g p4 6 me), (oX5 t0 t1 t2 pw), (aI g t1 6 pd), (aI g t2 36 wb), (aI g q1 6 (flF (fun _ => 0) sh 6)), (oX4 h0 q0 q1 (nI mm)), (aI g q0 24 (mvF f 2 0 ((((f 3) * (sd 10)) * (f 5)) / 10000)))] H := hP
  have hD : va_D A [(oX6 p0 p1 p2 p3 p4 (nI w)), (aI g p1 24 sd), (aI g p2 10 fn), (aI g p3 6 st), (aI g p4 6 me), (oX5 t0 t1 t2 pw), (aI g t1 6 pd), (aI g t2 36 wb), (aI g q1 6 (flF (fun _ => 0) sh 6)), (oX4 h0 q0 q1 (nI mm)), (aI g q0 24 (mvF f 2 0 ((((f 3) * (sd 10)) * (f 5)) / 10000)))] := hD
  have hP : va_P g.1 vwCl [(oX6 p0 p1 p2 p3 p4 (nI w)), (aI g p1 24 sd), (aI g p2 10 fn), (aI g p3 6 st), (aI g p4 6 me), (oX5 t0 t1 t2 pw), (aI g t1 6 pd), (aI g t2 36 wb), (aI g q1 6 (flF (fun _ => 0) sh 6)), (oX4 h0 q0 q1 (nI mm)), (aI g q0 24 (rTax (tOf sd fn) f))] H := hP
  have hD : va_D A [(oX6 p0 p1 p2 p3 p4 (nI w)), (aI g p1 24 sd), (aI g p2 10 fn), (aI g p3 6 st), (aI g p4 6 me), (oX5 t0 t1 t2 pw), (aI g t1 6 pd), (aI g t2 36 wb), (aI g q1 6 (flF (fun _ => 0) sh 6)), (oX4 h0 q0 q1 (nI mm)), (aI g q0 24 (rTax (tOf sd fn) f))] := hD
  have join71 : ∀ (F : Nat → Int32) (G : Nat → Int32), (eqP nP F (rUnd (tOf sd fn) st (cOf pd) (wb (mm - sg)) q2 ck w (nI mm) (rTax (tOf sd fn) f) (flF (fun _ => 0) sh 6))) → (∀ j, j < 6 → G j = (rUndG (tOf sd fn) st (cOf pd) (wb (mm - sg)) q2 ck w (nI mm) (rTax (tOf sd fn) f) (flF (fun _ => 0) sh 6)) j) → (F 11 = f 11) → ∀ (H : Heap) (locs : List Loc) (ls : Array Slot), va_P g.1 vwCl [(oX6 p0 p1 p2 p3 p4 (nI w)), (aI g p1 24 sd), (aI g p2 10 fn), (aI g p3 6 st), (aI g p4 6 me), (oX5 t0 t1 t2 pw), (aI g t1 6 pd), (aI g t2 36 wb), (aI g q1 6 G), (oX4 h0 q0 q1 (nI mm)), (aI g q0 24 F)] H → va_D A [(oX6 p0 p1 p2 p3 p4 (nI w)), (aI g p1 24 sd), (aI g p2 10 fn), (aI g p3 6 st), (aI g p4 6 me), (oX5 t0 t1 t2 pw), (aI g t1 6 pd), (aI g t2 36 wb), (aI g q1 6 G), (oX4 h0 q0 q1 (nI mm)), (aI g q0 24 F)] → va_S A s.heap H locs → lv_has ls 3 [(0, .ref h0), (1, .ref p0), (2, .ref t0)] → W p l e (he_room 4 88 0 0) s m args below meth c H locs 0 0 Q (F0 m 71 ls []) := by
    intro F G hU hG hs9 H locs ls hP hD hS hl
    have h5 : ∃ x, x ≤ 100 ∧ F 5 = nI x := by rw [hU 5 ⟨by decide, by decide⟩]; exact (bd_und hbw hw6 (by omega) hT hC (bd_tax hT hBd)).2.2.1
    have hZ : eqP nP (psT sd st me w F) (rTail (tOf sd fn) st me w (rUnd (tOf sd fn) st (cOf pd) (wb (mm - sg)) q2 ck w (nI mm) (rTax (tOf sd fn) f) (flF (fun _ => 0) sh 6))) := by rw [tail_eq hT h5]; exact cg_tail nP_in (fun _ _ _ => rfl) (fun _ _ => rfl) (fun _ _ => rfl) hw6 hU
    refine lv_aload_n hx hb dX4_pass_71 rfl (lv_at hl 0 rfl) ?_
    refine va_get (v := .ref q0) (T := TX4) (N := 3) hx hb hts inX4 hown hK hP 9 rfl rfl 0 (by decide) f9 (fun _ h9 => h9) rfl dX4_pass_72 ?_
    refine lv_iconst (v := 5) hx hb dX4_pass_75 (by decide) ?_
    refine lv_iconst (v := 0) hx hb dX4_pass_76 (by decide) ?_
    refine lv_aload_n hx hb dX4_pass_77 rfl (lv_at hl 0 rfl) ?_
    refine va_get (v := .ref q0) (T := TX4) (N := 3) hx hb hts inX4 hown hK hP 9 rfl rfl 0 (by decide) f9 (fun _ h9 => h9) rfl dX4_pass_78 ?_
    refine lv_iconst (v := 5) hx hb dX4_pass_81 (by decide) ?_
    refine he_iald hx hb hK hP 10 rfl (5) (by decide) (by decide) (by first | decide | assumption) (F 5) rfl dX4_pass_82 ?_
    refine lv_aload_n hx hb dX4_pass_83 rfl (lv_at hl 1 rfl) ?_
    refine va_get (v := .ref p1) (T := TX6) (N := 5) hx hb hts inX6 hown hK hP 0 rfl rfl 0 (by decide) f28 (fun _ h9 => h9) rfl dX4_pass_84 ?_
    refine lv_bipush (v := 14) hx hb dX4_pass_87 (by decide) ?_
    refine he_iald hx hb hK hP 1 rfl (14) (by decide) (by decide) (by first | decide | assumption) (sd 14) rfl dX4_pass_89 ?_
    refine lv_isub hx hb dX4_pass_90 ?_
    refine va_mmax hx hb (by rw [hml]; exact hl.1.symm) hown ml68 msmax mi mcmax (by decide) (Nat.le_of_ble_eq_true rfl) (Nat.le_of_ble_eq_true rfl) (Nat.le_of_ble_eq_true rfl) dX4_pass_91 ?_
    refine he_iast hx hb hK hP hD hS 10 rfl (5) (by decide) (by decide) (by first | decide | assumption) dX4_pass_94 (fun H locs hP hD hS => ?_)
    have hP : va_P g.1 vwCl [(oX6 p0 p1 p2 p3 p4 (nI w)), (aI g p1 24 sd), (aI g p2 10 fn), (aI g p3 6 st), (aI g p4 6 me), (oX5 t0 t1 t2 pw), (aI g t1 6 pd), (aI g t2 36 wb), (aI g q1 6 G), (oX4 h0 q0 q1 (nI mm)), (aI g q0 24 (upd F 5 (if 0 < ((F 5) - (sd 14)) then (F 5) - (sd 14) else 0)))] H := hP
    have hD : va_D A [(oX6 p0 p1 p2 p3 p4 (nI w)), (aI g p1 24 sd), (aI g p2 10 fn), (aI g p3 6 st), (aI g p4 6 me), (oX5 t0 t1 t2 pw), (aI g t1 6 pd), (aI g t2 36 wb), (aI g q1 6 G), (oX4 h0 q0 q1 (nI mm)), (aI g q0 24 (upd F 5 (if 0 < ((F 5) - (sd 14)) then (F 5) - (sd 14) else 0)))] := hD
    have hP : va_P g.1 vwCl [(oX6 p0 p1 p2 p3 p4 (nI w)), (aI g p1 24 sd), (aI g p2 10 fn), (aI g p3 6 st), (aI g p4 6 me), (oX5 t0 t1 t2 pw), (aI g t1 6 pd), (aI g t2 36 wb), (aI g q1 6 G), (oX4 h0 q0 q1 (nI mm)), (aI g q0 24 (psA sd F))] H := hP
    have hD : va_D A [(oX6 p0 p1 p2 p3 p4 (nI w)), (aI g p1 24 sd), (aI g p2 10 fn), (aI g p3 6 st), (aI g p4 6 me), (oX5 t0 t1 t2 pw), (aI g t1 6 pd), (aI g t2 36 wb), (aI g q1 6 G), (oX4 h0 q0 q1 (nI mm)), (aI g q0 24 (psA sd F))] := hD
    refine lv_aload_n hx hb dX4_pass_95 rfl (lv_at hl 0 rfl) ?_
    refine lv_aload_n hx hb dX4_pass_96 rfl (lv_at hl 1 rfl) ?_
    refine he_cv (wc := [(oX4 h0 q0 q1 (nI mm)), (aI g q0 24 (psA sd F)), (oX6 p0 p1 p2 p3 p4 (nI w)), (aI g p1 24 sd), (aI g p3 6 st), (aI g p4 6 me)]) (wr := [(aI g p2 10 fn), (oX5 t0 t1 t2 pw), (aI g t1 6 pd), (aI g t2 36 wb), (aI g q1 6 G)]) (va_runV (As := [.ref p0]) (rest := []) ⟨hx, hb, hml, hown, hts⟩ (c_X4_mend l g h0 q0 q1 (nI mm) (psA sd F) p0 p1 p2 p3 p4 w sd st me (by first | assumption | decide | omega) H.size) (cwV 1 hts gX4_pass_X4_mend rfl rfl rfl (by decide +kernel) ⟨Nat.le_of_ble_eq_true rfl, Nat.le_of_ble_eq_true rfl⟩) (he_preV (wc := [(oX4 h0 q0 q1 (nI mm)), (aI g q0 24 (psA sd F)), (oX6 p0 p1 p2 p3 p4 (nI w)), (aI g p1 24 sd), (aI g p3 6 st), (aI g p4 6 me)]) hK hP hD hS hA hE [9, 10, 0, 1, 3, 4] rfl rfl 9 rfl rfl) rfl rfl hl.1 rfl (lv_room (Nat.le_of_ble_eq_true rfl)) dX4_pass_97 ⟨(Nat.le_of_ble_eq_true rfl), (Nat.le_of_ble_eq_true rfl)⟩) hP hD hS hA [9, 10, 0, 1, 3, 4] [2, 5, 6, 7, 8] rfl rfl rfl (by decide) (fun u_8 H locs h_9 hP hD hS => ?_)
    have hP : va_P g.1 vwCl [(aI g p2 10 fn), (oX5 t0 t1 t2 pw), (aI g t1 6 pd), (aI g t2 36 wb), (aI g q1 6 G), (oX4 h0 q0 q1 (nI mm)), (aI g q0 24 (mendF sd st me (psA sd F) w)), (oX6 p0 p1 p2 p3 p4 (nI w)), (aI g p1 24 sd), (aI g p3 6 st), (aI g p4 6 me)] H := hP
    have hD : va_D A [(aI g p2 10 fn), (oX5 t0 t1 t2 pw), (aI g t1 6 pd), (aI g t2 36 wb), (aI g q1 6 G), (oX4 h0 q0 q1 (nI mm)), (aI g q0 24 (mendF sd st me (psA sd F) w)), (oX6 p0 p1 p2 p3 p4 (nI w)), (aI g p1 24 sd), (aI g p3 6 st), (aI g p4 6 me)] := hD
    refine lv_aload_n hx hb dX4_pass_100 rfl (lv_at hl 0 rfl) ?_
    refine lv_iconst (v := 0) hx hb dX4_pass_101 (by decide) ?_
    refine lv_iconst (v := 2) hx hb dX4_pass_102 (by decide) ?_
    refine lv_aload_n hx hb dX4_pass_103 rfl (lv_at hl 1 rfl) ?_
    refine va_get (v := .ref p1) (T := TX6) (N := 5) hx hb hts inX6 hown hK hP 7 rfl rfl 0 (by decide) f28 (fun _ h9 => h9) rfl dX4_pass_104 ?_
    refine lv_iconst (v := 5) hx hb dX4_pass_107 (by decide) ?_
    refine he_iald hx hb hK hP 8 rfl (5) (by decide) (by decide) (by first | decide | assumption) (sd 5) rfl dX4_pass_108 ?_
    refine lv_aload_n hx hb dX4_pass_109 rfl (lv_at hl 0 rfl) ?_
    refine va_get (v := .ref q0) (T := TX4) (N := 3) hx hb hts inX4 hown hK hP 5 rfl rfl 0 (by decide) f9 (fun _ h9 => h9) rfl dX4_pass_110 ?_
    refine lv_iconst (v := 3) hx hb dX4_pass_113 (by decide) ?_
    refine he_iald hx hb hK hP 6 rfl (3) (by decide) (by decide) (by first | decide | assumption) ((mendF sd st me (psA sd F) w) 3) rfl dX4_pass_114 ?_
    refine lv_bipush (v := 10) hx hb dX4_pass_115 (by decide) ?_
    refine lv_idiv hx hb dX4_pass_117 (by decide) ?_
    refine lv_imul hx hb dX4_pass_118 ?_
    refine he_cv (wc := [(oX4 h0 q0 q1 (nI mm)), (aI g q0 24 (mendF sd st me (psA sd F) w))]) (wr := [(aI g p2 10 fn), (oX5 t0 t1 t2 pw), (aI g t1 6 pd), (aI g t2 36 wb), (aI g q1 6 G), (oX6 p0 p1 p2 p3 p4 (nI w)), (aI g p1 24 sd), (aI g p3 6 st), (aI g p4 6 me)]) (va_runV (As := [.int 0, .int 2, .int ((sd 5) * (((mendF sd st me (psA sd F) w) 3) / 10))]) (rest := []) ⟨hx, hb, hml, hown, hts⟩ (c_X4_move l g h0 q0 q1 (nI mm) (mendF sd st me (psA sd F) w) 0 2 ((sd 5) * (((mendF sd st me (psA sd F) w) 3) / 10)) (by first | assumption | decide | omega) (by first | assumption | decide | omega) H.size) (cwV 3 hts gX4_pass_X4_move rfl rfl rfl (by decide +kernel) ⟨Nat.le_of_ble_eq_true rfl, Nat.le_of_ble_eq_true rfl⟩) (he_preV (wc := [(oX4 h0 q0 q1 (nI mm)), (aI g q0 24 (mendF sd st me (psA sd F) w))]) hK hP hD hS hA hE [5, 6] rfl rfl 5 rfl rfl) rfl rfl hl.1 rfl (lv_room (Nat.le_of_ble_eq_true rfl)) dX4_pass_119 ⟨(Nat.le_of_ble_eq_true rfl), (Nat.le_of_ble_eq_true rfl)⟩) hP hD hS hA [5, 6] [0, 1, 2, 3, 4, 7, 8, 9, 10] rfl rfl rfl (by decide) (fun u_11 H locs h_12 hP hD hS => ?_)
    have hP : va_P g.1 vwCl [(aI g p2 10 fn), (oX5 t0 t1 t2 pw), (aI g t1 6 pd), (aI g t2 36 wb), (aI g q1 6 G), (oX6 p0 p1 p2 p3 p4 (nI w)), (aI g p1 24 sd), (aI g p3 6 st), (aI g p4 6 me), (oX4 h0 q0 q1 (nI mm)), (aI g q0 24 (mvF (mendF sd st me (psA sd F) w) 0 2 ((sd 5) * (((mendF sd st me (psA sd F) w) 3) / 10))))] H := hP
    have hD : va_D A [(aI g p2 10 fn), (oX5 t0 t1 t2 pw), (aI g t1 6 pd), (aI g t2 36 wb), (aI g q1 6 G), (oX6 p0 p1 p2 p3 p4 (nI w)), (aI g p1 24 sd), (aI g p3 6 st), (aI g p4 6 me), (oX4 h0 q0 q1 (nI mm)), (aI g q0 24 (mvF (mendF sd st me (psA sd F) w) 0 2 ((sd 5) * (((mendF sd st me (psA sd F) w) 3) / 10))))] := hD
    have hP : va_P g.1 vwCl [(aI g p2 10 fn), (oX5 t0 t1 t2 pw), (aI g t1 6 pd), (aI g t2 36 wb), (aI g q1 6 G), (oX6 p0 p1 p2 p3 p4 (nI w)), (aI g p1 24 sd), (aI g p3 6 st), (aI g p4 6 me), (oX4 h0 q0 q1 (nI mm)), (aI g q0 24 (psB sd (mendF sd st me (psA sd F) w)))] H := hP
    have hD : va_D A [(aI g p2 10 fn), (oX5 t0 t1 t2 pw), (aI g t1 6 pd), (aI g t2 36 wb), (aI g q1 6 G), (oX6 p0 p1 p2 p3 p4 (nI w)), (aI g p1 24 sd), (aI g p3 6 st), (aI g p4 6 me), (oX4 h0 q0 q1 (nI mm)), (aI g q0 24 (psB sd (mendF sd st me (psA sd F) w)))] := hD
    refine lv_aload_n hx hb dX4_pass_122 rfl (lv_at hl 0 rfl) ?_
    refine lv_iconst (v := 1) hx hb dX4_pass_123 (by decide) ?_
    refine lv_iconst (v := 2) hx hb dX4_pass_124 (by decide) ?_
    refine lv_aload_n hx hb dX4_pass_125 rfl (lv_at hl 1 rfl) ?_
    refine va_get (v := .ref p1) (T := TX6) (N := 5) hx hb hts inX6 hown hK hP 5 rfl rfl 0 (by decide) f28 (fun _ h9 => h9) rfl dX4_pass_126 ?_
    refine lv_bipush (v := 8) hx hb dX4_pass_129 (by decide) ?_
    refine he_iald hx hb hK hP 6 rfl (8) (by decide) (by decide) (by first | decide | assumption) (sd 8) rfl dX4_pass_131 ?_
    refine lv_aload_n hx hb dX4_pass_132 rfl (lv_at hl 0 rfl) ?_
    refine va_get (v := .ref q0) (T := TX4) (N := 3) hx hb hts inX4 hown hK hP 9 rfl rfl 0 (by decide) f9 (fun _ h9 => h9) rfl dX4_pass_133 ?_
    refine lv_iconst (v := 4) hx hb dX4_pass_136 (by decide) ?_
    refine he_iald hx hb hK hP 10 rfl (4) (by decide) (by decide) (by first | decide | assumption) ((psB sd (mendF sd st me (psA sd F) w)) 4) rfl dX4_pass_137 ?_
    refine lv_bipush (v := 10) hx hb dX4_pass_138 (by decide) ?_
    refine lv_idiv hx hb dX4_pass_140 (by decide) ?_
    refine lv_imul hx hb dX4_pass_141 ?_
    refine he_cv (wc := [(oX4 h0 q0 q1 (nI mm)), (aI g q0 24 (psB sd (mendF sd st me (psA sd F) w)))]) (wr := [(aI g p2 10 fn), (oX5 t0 t1 t2 pw), (aI g t1 6 pd), (aI g t2 36 wb), (aI g q1 6 G), (oX6 p0 p1 p2 p3 p4 (nI w)), (aI g p1 24 sd), (aI g p3 6 st), (aI g p4 6 me)]) (va_runV (As := [.int 1, .int 2, .int ((sd 8) * (((psB sd (mendF sd st me (psA sd F) w)) 4) / 10))]) (rest := []) ⟨hx, hb, hml, hown, hts⟩ (c_X4_move l g h0 q0 q1 (nI mm) (psB sd (mendF sd st me (psA sd F) w)) 1 2 ((sd 8) * (((psB sd (mendF sd st me (psA sd F) w)) 4) / 10)) (by first | assumption | decide | omega) (by first | assumption | decide | omega) H.size) (cwV 3 hts gX4_pass_X4_move rfl rfl rfl (by decide +kernel) ⟨Nat.le_of_ble_eq_true rfl, Nat.le_of_ble_eq_true rfl⟩) (he_preV (wc := [(oX4 h0 q0 q1 (nI mm)), (aI g q0 24 (psB sd (mendF sd st me (psA sd F) w)))]) hK hP hD hS hA hE [9, 10] rfl rfl 9 rfl rfl) rfl rfl hl.1 rfl (lv_room (Nat.le_of_ble_eq_true rfl)) dX4_pass_142 ⟨(Nat.le_of_ble_eq_true rfl), (Nat.le_of_ble_eq_true rfl)⟩) hP hD hS hA [9, 10] [0, 1, 2, 3, 4, 5, 6, 7, 8] rfl rfl rfl (by decide) (fun u_14 H locs h_15 hP hD hS => ?_)
    have hP : va_P g.1 vwCl [(aI g p2 10 fn), (oX5 t0 t1 t2 pw), (aI g t1 6 pd), (aI g t2 36 wb), (aI g q1 6 G), (oX6 p0 p1 p2 p3 p4 (nI w)), (aI g p1 24 sd), (aI g p3 6 st), (aI g p4 6 me), (oX4 h0 q0 q1 (nI mm)), (aI g q0 24 (mvF (psB sd (mendF sd st me (psA sd F) w)) 1 2 ((sd 8) * (((psB sd (mendF sd st me (psA sd F) w)) 4) / 10))))] H := hP
    have hD : va_D A [(aI g p2 10 fn), (oX5 t0 t1 t2 pw), (aI g t1 6 pd), (aI g t2 36 wb), (aI g q1 6 G), (oX6 p0 p1 p2 p3 p4 (nI w)), (aI g p1 24 sd), (aI g p3 6 st), (aI g p4 6 me), (oX4 h0 q0 q1 (nI mm)), (aI g q0 24 (mvF (psB sd (mendF sd st me (psA sd F) w)) 1 2 ((sd 8) * (((psB sd (mendF sd st me (psA sd F) w)) 4) / 10))))] := hD
    have hP : va_P g.1 vwCl [(aI g p2 10 fn), (oX5 t0 t1 t2 pw), (aI g t1 6 pd), (aI g t2 36 wb), (aI g q1 6 G), (oX6 p0 p1 p2 p3 p4 (nI w)), (aI g p1 24 sd), (aI g p3 6 st), (aI g p4 6 me), (oX4 h0 q0 q1 (nI mm)), (aI g q0 24 (psC sd (psB sd (mendF sd st me (psA sd F) w))))] H := hP
    have hD : va_D A [(aI g p2 10 fn), (oX5 t0 t1 t2 pw), (aI g t1 6 pd), (aI g t2 36 wb), (aI g q1 6 G), (oX6 p0 p1 p2 p3 p4 (nI w)), (aI g p1 24 sd), (aI g p3 6 st), (aI g p4 6 me), (oX4 h0 q0 q1 (nI mm)), (aI g q0 24 (psC sd (psB sd (mendF sd st me (psA sd F) w))))] := hD
    refine lv_aload_n hx hb dX4_pass_145 rfl (lv_at hl 0 rfl) ?_
    refine lv_aload_n hx hb dX4_pass_146 rfl (lv_at hl 1 rfl) ?_
    refine va_get (v := .ref p1) (T := TX6) (N := 5) hx hb hts inX6 hown hK hP 5 rfl rfl 0 (by decide) f28 (fun _ h9 => h9) rfl dX4_pass_147 ?_
    refine lv_bipush (v := 8) hx hb dX4_pass_150 (by decide) ?_
    refine he_iald hx hb hK hP 6 rfl (8) (by decide) (by decide) (by first | decide | assumption) (sd 8) rfl dX4_pass_152 ?_
    refine lv_aload_n hx hb dX4_pass_153 rfl (lv_at hl 1 rfl) ?_
    refine va_get (v := .ref p1) (T := TX6) (N := 5) hx hb hts inX6 hown hK hP 5 rfl rfl 0 (by decide) f28 (fun _ h9 => h9) rfl dX4_pass_154 ?_
    refine lv_iconst (v := 5) hx hb dX4_pass_157 (by decide) ?_
    refine he_iald hx hb hK hP 6 rfl (5) (by decide) (by decide) (by first | decide | assumption) (sd 5) rfl dX4_pass_158 ?_
    refine lv_isub hx hb dX4_pass_159 ?_
    refine he_cv (wc := [(oX4 h0 q0 q1 (nI mm)), (aI g q0 24 (psC sd (psB sd (mendF sd st me (psA sd F) w))))]) (wr := [(aI g p2 10 fn), (oX5 t0 t1 t2 pw), (aI g t1 6 pd), (aI g t2 36 wb), (aI g q1 6 G), (oX6 p0 p1 p2 p3 p4 (nI w)), (aI g p1 24 sd), (aI g p3 6 st), (aI g p4 6 me)]) (va_runV (As := [.int ((sd 8) - (sd 5))]) (rest := []) ⟨hx, hb, hml, hown, hts⟩ (c_X4_desert l g h0 q0 q1 (nI mm) (psC sd (psB sd (mendF sd st me (psA sd F) w))) ((sd 8) - (sd 5)) H.size) (cwV 1 hts gX4_pass_X4_desert rfl rfl rfl (by decide +kernel) ⟨Nat.le_of_ble_eq_true rfl, Nat.le_of_ble_eq_true rfl⟩) (he_preV (wc := [(oX4 h0 q0 q1 (nI mm)), (aI g q0 24 (psC sd (psB sd (mendF sd st me (psA sd F) w))))]) hK hP hD hS hA hE [9, 10] rfl rfl 9 rfl rfl) rfl rfl hl.1 rfl (lv_room (Nat.le_of_ble_eq_true rfl)) dX4_pass_160 ⟨(Nat.le_of_ble_eq_true rfl), (Nat.le_of_ble_eq_true rfl)⟩) hP hD hS hA [9, 10] [0, 1, 2, 3, 4, 5, 6, 7, 8] rfl rfl rfl (by decide) (fun u_17 H locs h_18 hP hD hS => ?_)
    have hP : va_P g.1 vwCl [(aI g p2 10 fn), (oX5 t0 t1 t2 pw), (aI g t1 6 pd), (aI g t2 36 wb), (aI g q1 6 G), (oX6 p0 p1 p2 p3 p4 (nI w)), (aI g p1 24 sd), (aI g p3 6 st), (aI g p4 6 me), (oX4 h0 q0 q1 (nI mm)), (aI g q0 24 (dsF (psC sd (psB sd (mendF sd st me (psA sd F) w))) ((sd 8) - (sd 5))))] H := hP
    have hD : va_D A [(aI g p2 10 fn), (oX5 t0 t1 t2 pw), (aI g t1 6 pd), (aI g t2 36 wb), (aI g q1 6 G), (oX6 p0 p1 p2 p3 p4 (nI w)), (aI g p1 24 sd), (aI g p3 6 st), (aI g p4 6 me), (oX4 h0 q0 q1 (nI mm)), (aI g q0 24 (dsF (psC sd (psB sd (mendF sd st me (psA sd F) w))) ((sd 8) - (sd 5))))] := hD
    have hP : va_P g.1 vwCl [(aI g p2 10 fn), (oX5 t0 t1 t2 pw), (aI g t1 6 pd), (aI g t2 36 wb), (aI g q1 6 G), (oX6 p0 p1 p2 p3 p4 (nI w)), (aI g p1 24 sd), (aI g p3 6 st), (aI g p4 6 me), (oX4 h0 q0 q1 (nI mm)), (aI g q0 24 (psT sd st me w F))] H := hP
    have hD : va_D A [(aI g p2 10 fn), (oX5 t0 t1 t2 pw), (aI g t1 6 pd), (aI g t2 36 wb), (aI g q1 6 G), (oX6 p0 p1 p2 p3 p4 (nI w)), (aI g p1 24 sd), (aI g p3 6 st), (aI g p4 6 me), (oX4 h0 q0 q1 (nI mm)), (aI g q0 24 (psT sd st me w F))] := hD
    refine lv_aload_n hx hb dX4_pass_163 rfl (lv_at hl 0 rfl) ?_
    refine lv_dup hx hb dX4_pass_164 rfl ?_
    refine va_get (v := .int (nI mm)) (T := TX4) (N := 3) hx hb hts inX4 hown hK hP 9 rfl rfl 2 (by decide) f18 (fun _ h9 => h9) rfl dX4_pass_165 ?_
    refine lv_iconst (v := 1) hx hb dX4_pass_168 (by decide) ?_
    refine lv_iadd hx hb dX4_pass_169 ?_
    refine he_top (nI (mm + 1)) (nI_add mm 1) ?_
    refine va_put (v := .int (nI (mm + 1))) (ty := .int) (T := TX4) (N := 3) hx hb hts inX4 tyX4 tyX4_ok nmX4 hown hK hP hD hS 9 rfl rfl 2 (by decide) f18 (fun _ h9 => h9) rfl (by decide +kernel) rfl rfl (Nat.le_of_ble_eq_true rfl) dX4_pass_170 (fun H locs hP hD hS => ?_)
    have hP : va_P g.1 vwCl [(aI g p2 10 fn), (oX5 t0 t1 t2 pw), (aI g t1 6 pd), (aI g t2 36 wb), (aI g q1 6 G), (oX6 p0 p1 p2 p3 p4 (nI w)), (aI g p1 24 sd), (aI g p3 6 st), (aI g p4 6 me), (oX4 h0 q0 q1 (nI (mm + 1))), (aI g q0 24 (psT sd st me w F))] H := hP
    have hD : va_D A [(aI g p2 10 fn), (oX5 t0 t1 t2 pw), (aI g t1 6 pd), (aI g t2 36 wb), (aI g q1 6 G), (oX6 p0 p1 p2 p3 p4 (nI w)), (aI g p1 24 sd), (aI g p3 6 st), (aI g p4 6 me), (oX4 h0 q0 q1 (nI (mm + 1))), (aI g q0 24 (psT sd st me w F))] := hD
    refine lv_aload_n hx hb dX4_pass_173 rfl (lv_at hl 2 rfl) ?_
    refine lv_ifnull hx hb dX4_pass_174 ?_
    refine lv_aload_n hx hb dX4_pass_177 rfl (lv_at hl 0 rfl) ?_
    refine va_get (v := .int (nI (mm + 1))) (T := TX4) (N := 3) hx hb hts inX4 hown hK hP 9 rfl rfl 2 (by decide) f18 (fun _ h9 => h9) rfl dX4_pass_178 ?_
    refine lv_aload_n hx hb dX4_pass_181 rfl (lv_at hl 0 rfl) ?_
    refine va_get (v := .ref q0) (T := TX4) (N := 3) hx hb hts inX4 hown hK hP 9 rfl rfl 0 (by decide) f9 (fun _ h9 => h9) rfl dX4_pass_182 ?_
    refine lv_bipush (v := 11) hx hb dX4_pass_185 (by decide) ?_
    refine he_iald hx hb hK hP 10 rfl (11) (by decide) (by decide) (by first | decide | assumption) (nI sg) (by rw [ps_n (by decide) (by decide)]; exact hs9.trans h11) dX4_pass_187 ?_
    refine lv_isub hx hb dX4_pass_188 ?_
    refine he_top (nI (mm + 1 - sg)) (pk_sub (by omega)) ?_
    refine lv_aload_n hx hb dX4_pass_189 rfl (lv_at hl 2 rfl) ?_
    refine va_get (v := .ref t1) (T := TX5) (N := 3) hx hb hts inX5 hown hK hP 1 rfl rfl 0 (by decide) f57 (fun _ h9 => h9) rfl dX4_pass_190 ?_
    refine lv_iconst (v := 5) hx hb dX4_pass_193 (by decide) ?_
    refine he_iald hx hb hK hP 2 rfl (5) (by decide) (by decide) (by first | decide | assumption) (nI q5) hq5 dX4_pass_194 ?_
    refine lv_icmp_lt (tgt := 206) hx hb dX4_pass_195 (by decide) (fun c_19 => ?_) (fun c_19 => ?_)
    · have k_20 : mm + 1 - sg < q5 := (he_clt (a := mm + 1 - sg) (b := q5) rfl rfl (by omega) (by omega)).mp c_19
      have hP := hP.sub (ws' := [(oX4 h0 q0 q1 (nI (mm + 1))), (aI g q0 24 (psT sd st me w F)), (aI g q1 6 G), (oX6 p0 p1 p2 p3 p4 (nI w)), (aI g p1 24 sd), (aI g p2 10 fn), (aI g p3 6 st), (aI g p4 6 me), (oX5 t0 t1 t2 pw), (aI g t1 6 pd), (aI g t2 36 wb)]) [9, 10, 4, 5, 6, 0, 7, 8, 1, 2, 3] rfl
      have hD := hD.sub (ws' := [(oX4 h0 q0 q1 (nI (mm + 1))), (aI g q0 24 (psT sd st me w F)), (aI g q1 6 G), (oX6 p0 p1 p2 p3 p4 (nI w)), (aI g p1 24 sd), (aI g p2 10 fn), (aI g p3 6 st), (aI g p4 6 me), (oX5 t0 t1 t2 pw), (aI g t1 6 pd), (aI g t2 36 wb)]) [9, 10, 4, 5, 6, 0, 7, 8, 1, 2, 3] (by decide) rfl
      exact he_rv hQ hx hb hr hlk hP hD hS dX4_pass_206 (Nat.le_of_ble_eq_true rfl) (Nat.le_of_ble_eq_true rfl) ((psT sd st me w F, G)) (rfl) (⟨end_n (by (try dsimp only); omega) hZ, hG, by (try dsimp only); rw [ps_n (by (try dsimp only); decide) (by (try dsimp only); decide)]; exact hs9⟩)
    · have k_21 : ¬ (mm + 1 - sg < q5) := fun h9 => c_19 ((he_clt (a := mm + 1 - sg) (b := q5) rfl rfl (by omega) (by omega)).mpr h9)
      refine lv_aload_n hx hb dX4_pass_198 rfl (lv_at hl 0 rfl) ?_
      refine va_get (v := .ref q0) (T := TX4) (N := 3) hx hb hts inX4 hown hK hP 9 rfl rfl 0 (by decide) f9 (fun _ h9 => h9) rfl dX4_pass_199 ?_
      refine lv_bipush (v := 10) hx hb dX4_pass_202 (by decide) ?_
      refine lv_iconst (v := (-1)) hx hb dX4_pass_204 (by decide) ?_
      refine he_iast hx hb hK hP hD hS 10 rfl (10) (by decide) (by decide) (by first | decide | assumption) dX4_pass_205 (fun H locs hP hD hS => ?_)
      have hP : va_P g.1 vwCl [(aI g p2 10 fn), (oX5 t0 t1 t2 pw), (aI g t1 6 pd), (aI g t2 36 wb), (aI g q1 6 G), (oX6 p0 p1 p2 p3 p4 (nI w)), (aI g p1 24 sd), (aI g p3 6 st), (aI g p4 6 me), (oX4 h0 q0 q1 (nI (mm + 1))), (aI g q0 24 (upd (psT sd st me w F) 10 (-1)))] H := hP
      have hD : va_D A [(aI g p2 10 fn), (oX5 t0 t1 t2 pw), (aI g t1 6 pd), (aI g t2 36 wb), (aI g q1 6 G), (oX6 p0 p1 p2 p3 p4 (nI w)), (aI g p1 24 sd), (aI g p3 6 st), (aI g p4 6 me), (oX4 h0 q0 q1 (nI (mm + 1))), (aI g q0 24 (upd (psT sd st me w F) 10 (-1)))] := hD
      have hP := hP.sub (ws' := [(oX4 h0 q0 q1 (nI (mm + 1))), (aI g q0 24 (upd (psT sd st me w F) 10 (-1))), (aI g q1 6 G), (oX6 p0 p1 p2 p3 p4 (nI w)), (aI g p1 24 sd), (aI g p2 10 fn), (aI g p3 6 st), (aI g p4 6 me), (oX5 t0 t1 t2 pw), (aI g t1 6 pd), (aI g t2 36 wb)]) [9, 10, 4, 5, 6, 0, 7, 8, 1, 2, 3] rfl
      have hD := hD.sub (ws' := [(oX4 h0 q0 q1 (nI (mm + 1))), (aI g q0 24 (upd (psT sd st me w F) 10 (-1))), (aI g q1 6 G), (oX6 p0 p1 p2 p3 p4 (nI w)), (aI g p1 24 sd), (aI g p2 10 fn), (aI g p3 6 st), (aI g p4 6 me), (oX5 t0 t1 t2 pw), (aI g t1 6 pd), (aI g t2 36 wb)]) [9, 10, 4, 5, 6, 0, 7, 8, 1, 2, 3] (by decide) rfl
      exact he_rv hQ hx hb hr hlk hP hD hS dX4_pass_206 (Nat.le_of_ble_eq_true rfl) (Nat.le_of_ble_eq_true rfl) ((upd (psT sd st me w F) 10 (-1), G)) (rfl) (⟨end_p (by (try dsimp only); omega) hZ, hG, by (try dsimp only); rw [upd_n (by (try dsimp only); decide), ps_n (by (try dsimp only); decide) (by (try dsimp only); decide)]; exact hs9⟩)
  refine lv_aload_n hx hb dX4_pass_39 rfl (lv_at hl 2 rfl) ?_
  refine lv_ifnull hx hb dX4_pass_40 ?_
  refine lv_aload_n hx hb dX4_pass_43 rfl (lv_at hl 0 rfl) ?_
  refine lv_aload_n hx hb dX4_pass_44 rfl (lv_at hl 2 rfl) ?_
  rcases Decidable.em (payF pd (nI mm) ≤ (rTax (tOf sd fn) f) 0) with hs_22 | hs_22
  · refine he_ci (wc := [(oX4 h0 q0 q1 (nI mm)), (aI g q0 24 (rTax (tOf sd fn) f)), (oX5 t0 t1 t2 pw), (aI g t1 6 pd)]) (wr := [(oX6 p0 p1 p2 p3 p4 (nI w)), (aI g p1 24 sd), (aI g p2 10 fn), (aI g p3 6 st), (aI g p4 6 me), (aI g t2 36 wb), (aI g q1 6 (flF (fun _ => 0) sh 6))]) (va_runV (As := [.ref t0]) (rest := []) ⟨hx, hb, hml, hown, hts⟩ (c_X4_isPaid1 l g h0 q0 q1 (nI mm) (rTax (tOf sd fn) f) t0 t1 t2 pw pd (by first | assumption | decide | omega) H.size) (cwV 1 hts gX4_pass_X4_isPaid rfl rfl rfl (by decide +kernel) ⟨Nat.le_of_ble_eq_true rfl, Nat.le_of_ble_eq_true rfl⟩) (he_preV (wc := [(oX4 h0 q0 q1 (nI mm)), (aI g q0 24 (rTax (tOf sd fn) f)), (oX5 t0 t1 t2 pw), (aI g t1 6 pd)]) hK hP hD hS hA hE [9, 10, 5, 6] rfl rfl 9 rfl rfl) rfl rfl hl.1 rfl (lv_room (Nat.le_of_ble_eq_true rfl)) dX4_pass_45 ⟨(Nat.le_of_ble_eq_true rfl), (Nat.le_of_ble_eq_true rfl)⟩) hP hD hS hA [9, 10, 5, 6] [0, 1, 2, 3, 4, 7, 8] rfl rfl rfl (by decide) (fun r_23 u_24 H locs h_25 hP hD hS => ?_)
    subst h_25
    have hP : va_P g.1 vwCl [(oX6 p0 p1 p2 p3 p4 (nI w)), (aI g p1 24 sd), (aI g p2 10 fn), (aI g p3 6 st), (aI g p4 6 me), (aI g t2 36 wb), (aI g q1 6 (flF (fun _ => 0) sh 6)), (oX4 h0 q0 q1 (nI mm)), (aI g q0 24 (mvF (rTax (tOf sd fn) f) 0 1 (payF pd (nI mm)))), (oX5 t0 t1 t2 pw), (aI g t1 6 pd)] H := hP
    have hD : va_D A [(oX6 p0 p1 p2 p3 p4 (nI w)), (aI g p1 24 sd), (aI g p2 10 fn), (aI g p3 6 st), (aI g p4 6 me), (aI g t2 36 wb), (aI g q1 6 (flF (fun _ => 0) sh 6)), (oX4 h0 q0 q1 (nI mm)), (aI g q0 24 (mvF (rTax (tOf sd fn) f) 0 1 (payF pd (nI mm)))), (oX5 t0 t1 t2 pw), (aI g t1 6 pd)] := hD
    refine lv_if_eq (tgt := 71) hx hb dX4_pass_48 (by decide) (fun c_26 => ?_) (fun c_26 => ?_)
    · exact absurd c_26 (by decide)
    · refine lv_aload_n hx hb dX4_pass_51 rfl (lv_at hl 0 rfl) ?_
      refine lv_aload_n hx hb dX4_pass_52 rfl (lv_at hl 1 rfl) ?_
      refine lv_aload_n hx hb dX4_pass_53 rfl (lv_at hl 2 rfl) ?_
      have hB1 : bdF w st (mvF (rTax (tOf sd fn) f) 0 1 (payF pd (nI mm))) := bd_mv (by decide) (by decide) (by decide) (bd_pay hC _) (bd_tax hT hBd)
      refine he_cv (wc := [(oX4 h0 q0 q1 (nI mm)), (aI g q0 24 (mvF (rTax (tOf sd fn) f) 0 1 (payF pd (nI mm)))), (aI g q1 6 (flF (fun _ => 0) sh 6)), (oX6 p0 p1 p2 p3 p4 (nI w)), (aI g p1 24 sd), (aI g p3 6 st), (oX5 t0 t1 t2 pw), (aI g t1 6 pd), (aI g t2 36 wb)]) (wr := [(aI g p2 10 fn), (aI g p4 6 me)]) (va_runV (As := [.ref p0, .ref t0]) (rest := []) ⟨hx, hb, hml, hown, hts⟩ (s_X4_shoot l g h0 q0 q1 (nI mm) (mvF (rTax (tOf sd fn) f) 0 1 (payF pd (nI mm))) (flF (fun _ => 0) sh 6) p0 p1 p2 p3 p4 w sd st t0 t1 t2 pw pd wb ck q2 (mm - sg) (tOf sd fn) (by first | assumption | decide | omega) (by first | assumption | decide | omega) (by first | assumption | decide | omega) (by first | assumption | decide | omega) (by first | assumption | decide | omega) (by omega) (by rw [mvF_n _ _ _ _ _ (by decide) (by decide), show rTax (tOf sd fn) f 11 = f 11 from mvF_n _ _ _ _ _ (by decide) (by decide), h11, pk_sub hsg]) (by first | assumption | decide | omega) (bd_st hBd) (bd_pos hB1) rfl H.size) (cwV 2 hts gX4_pass_X4_shoot rfl rfl rfl (by decide +kernel) ⟨Nat.le_of_ble_eq_true rfl, Nat.le_of_ble_eq_true rfl⟩) (he_preV (wc := [(oX4 h0 q0 q1 (nI mm)), (aI g q0 24 (mvF (rTax (tOf sd fn) f) 0 1 (payF pd (nI mm)))), (aI g q1 6 (flF (fun _ => 0) sh 6)), (oX6 p0 p1 p2 p3 p4 (nI w)), (aI g p1 24 sd), (aI g p3 6 st), (oX5 t0 t1 t2 pw), (aI g t1 6 pd), (aI g t2 36 wb)]) hK hP hD hS hA hE [7, 8, 6, 0, 1, 3, 9, 10, 5] rfl rfl 7 rfl rfl) rfl rfl hl.1 rfl (lv_room (Nat.le_of_ble_eq_true rfl)) dX4_pass_54 ⟨(Nat.le_of_ble_eq_true rfl), (Nat.le_of_ble_eq_true rfl)⟩) hP hD hS hA [7, 8, 6, 0, 1, 3, 9, 10, 5] [2, 4] rfl rfl rfl (by decide) (fun u_28 H locs h_29 hP hD hS => ?_)
      obtain ⟨uf_30, us_31⟩ := u_28
      try dsimp only at h_29
      obtain ⟨hf_32, hf_33⟩ := h_29
      have hP : va_P g.1 vwCl [(aI g p2 10 fn), (aI g p4 6 me), (oX4 h0 q0 q1 (nI mm)), (aI g q0 24 uf_30), (aI g q1 6 us_31), (oX6 p0 p1 p2 p3 p4 (nI w)), (aI g p1 24 sd), (aI g p3 6 st), (oX5 t0 t1 t2 pw), (aI g t1 6 pd), (aI g t2 36 wb)] H := hP
      have hD : va_D A [(aI g p2 10 fn), (aI g p4 6 me), (oX4 h0 q0 q1 (nI mm)), (aI g q0 24 uf_30), (aI g q1 6 us_31), (oX6 p0 p1 p2 p3 p4 (nI w)), (aI g p1 24 sd), (aI g p3 6 st), (oX5 t0 t1 t2 pw), (aI g t1 6 pd), (aI g t2 36 wb)] := hD
      refine lv_aload_n hx hb dX4_pass_57 rfl (lv_at hl 0 rfl) ?_
      refine lv_aload_n hx hb dX4_pass_58 rfl (lv_at hl 1 rfl) ?_
      refine lv_aload_n hx hb dX4_pass_59 rfl (lv_at hl 2 rfl) ?_
      refine va_get (v := .ref t1) (T := TX5) (N := 3) hx hb hts inX5 hown hK hP 8 rfl rfl 0 (by decide) f57 (fun _ h9 => h9) rfl dX4_pass_60 ?_
      refine lv_iconst (v := 2) hx hb dX4_pass_63 (by decide) ?_
      refine he_iald hx hb hK hP 9 rfl (2) (by decide) (by decide) (by first | decide | assumption) (nI q2) hq2 dX4_pass_64 ?_
      refine he_ci (wc := [(oX6 p0 p1 p2 p3 p4 (nI w)), (aI g p2 10 fn)]) (wr := [(aI g p4 6 me), (oX4 h0 q0 q1 (nI mm)), (aI g q0 24 uf_30), (aI g q1 6 us_31), (aI g p1 24 sd), (aI g p3 6 st), (oX5 t0 t1 t2 pw), (aI g t1 6 pd), (aI g t2 36 wb)]) (va_runV (As := [.int (nI q2)]) (rest := [.ref h0]) ⟨hx, hb, hml, hown, hts⟩ (c_X6_fearAt l g p0 p1 p2 p3 p4 (nI w) fn (nI q2) H.size) (cwV 1 hts gX4_pass_X6_fearAt rfl rfl rfl (by decide +kernel) ⟨Nat.le_of_ble_eq_true rfl, Nat.le_of_ble_eq_true rfl⟩) (he_preV (wc := [(oX6 p0 p1 p2 p3 p4 (nI w)), (aI g p2 10 fn)]) hK hP hD hS hA hE [5, 0] rfl rfl 5 rfl rfl) rfl rfl hl.1 rfl (lv_room (Nat.le_of_ble_eq_true rfl)) dX4_pass_65 ⟨(Nat.le_of_ble_eq_true rfl), (Nat.le_of_ble_eq_true rfl)⟩) hP hD hS hA [5, 0] [1, 2, 3, 4, 6, 7, 8, 9, 10] rfl rfl rfl (by decide) (fun r_34 u_35 H locs h_36 hP hD hS => ?_)
      subst h_36
      have hP : va_P g.1 vwCl [(aI g p4 6 me), (oX4 h0 q0 q1 (nI mm)), (aI g q0 24 uf_30), (aI g q1 6 us_31), (aI g p1 24 sd), (aI g p3 6 st), (oX5 t0 t1 t2 pw), (aI g t1 6 pd), (aI g t2 36 wb), (oX6 p0 p1 p2 p3 p4 (nI w)), (aI g p2 10 fn)] H := hP
      have hD : va_D A [(aI g p4 6 me), (oX4 h0 q0 q1 (nI mm)), (aI g q0 24 uf_30), (aI g q1 6 us_31), (aI g p1 24 sd), (aI g p3 6 st), (oX5 t0 t1 t2 pw), (aI g t1 6 pd), (aI g t2 36 wb), (oX6 p0 p1 p2 p3 p4 (nI w)), (aI g p2 10 fn)] := hD
      refine he_cv (wc := [(oX4 h0 q0 q1 (nI mm)), (aI g q0 24 uf_30)]) (wr := [(aI g p4 6 me), (aI g q1 6 us_31), (aI g p1 24 sd), (aI g p3 6 st), (oX5 t0 t1 t2 pw), (aI g t1 6 pd), (aI g t2 36 wb), (oX6 p0 p1 p2 p3 p4 (nI w)), (aI g p2 10 fn)]) (va_runV (As := [.int (faF fn (nI q2))]) (rest := []) ⟨hx, hb, hml, hown, hts⟩ (c_X4_frighten l g h0 q0 q1 (nI mm) uf_30 (faF fn (nI q2)) H.size) (cwV 1 hts gX4_pass_X4_frighten rfl rfl rfl (by decide +kernel) ⟨Nat.le_of_ble_eq_true rfl, Nat.le_of_ble_eq_true rfl⟩) (he_preV (wc := [(oX4 h0 q0 q1 (nI mm)), (aI g q0 24 uf_30)]) hK hP hD hS hA hE [1, 2] rfl rfl 1 rfl rfl) rfl rfl hl.1 rfl (lv_room (Nat.le_of_ble_eq_true rfl)) dX4_pass_68 ⟨(Nat.le_of_ble_eq_true rfl), (Nat.le_of_ble_eq_true rfl)⟩) hP hD hS hA [1, 2] [0, 3, 4, 5, 6, 7, 8, 9, 10] rfl rfl rfl (by decide) (fun u_38 H locs h_39 hP hD hS => ?_)
      have hP : va_P g.1 vwCl [(aI g p4 6 me), (aI g q1 6 us_31), (aI g p1 24 sd), (aI g p3 6 st), (oX5 t0 t1 t2 pw), (aI g t1 6 pd), (aI g t2 36 wb), (oX6 p0 p1 p2 p3 p4 (nI w)), (aI g p2 10 fn), (oX4 h0 q0 q1 (nI mm)), (aI g q0 24 (frF uf_30 (faF fn (nI q2))))] H := hP
      have hD : va_D A [(aI g p4 6 me), (aI g q1 6 us_31), (aI g p1 24 sd), (aI g p3 6 st), (oX5 t0 t1 t2 pw), (aI g t1 6 pd), (aI g t2 36 wb), (oX6 p0 p1 p2 p3 p4 (nI w)), (aI g p2 10 fn), (oX4 h0 q0 q1 (nI mm)), (aI g q0 24 (frF uf_30 (faF fn (nI q2))))] := hD
      exact join71 (frF uf_30 (faF fn (nI q2))) us_31 (by rw [fa_eq hq9, und_p hs_22 hf_32]; exact cg_r) (fun j _ => by rw [und_pG hs_22, hf_33]) ((und_11 hbw hw6 hf_32).trans (mvF_n _ _ _ _ _ (by decide) (by decide))) _ _ _ (hP.sub [7, 2, 8, 3, 0, 4, 5, 6, 1, 9, 10] rfl) (hD.sub [7, 2, 8, 3, 0, 4, 5, 6, 1, 9, 10] (by decide) rfl) hS (lv_sub hl [0, 1, 2] rfl)
  · refine he_ci (wc := [(oX4 h0 q0 q1 (nI mm)), (aI g q0 24 (rTax (tOf sd fn) f)), (oX5 t0 t1 t2 pw), (aI g t1 6 pd)]) (wr := [(oX6 p0 p1 p2 p3 p4 (nI w)), (aI g p1 24 sd), (aI g p2 10 fn), (aI g p3 6 st), (aI g p4 6 me), (aI g t2 36 wb), (aI g q1 6 (flF (fun _ => 0) sh 6))]) (va_runV (As := [.ref t0]) (rest := []) ⟨hx, hb, hml, hown, hts⟩ (c_X4_isPaid0 l g h0 q0 q1 (nI mm) (rTax (tOf sd fn) f) t0 t1 t2 pw pd (by first | assumption | decide | omega) H.size) (cwV 1 hts gX4_pass_X4_isPaid rfl rfl rfl (by decide +kernel) ⟨Nat.le_of_ble_eq_true rfl, Nat.le_of_ble_eq_true rfl⟩) (he_preV (wc := [(oX4 h0 q0 q1 (nI mm)), (aI g q0 24 (rTax (tOf sd fn) f)), (oX5 t0 t1 t2 pw), (aI g t1 6 pd)]) hK hP hD hS hA hE [9, 10, 5, 6] rfl rfl 9 rfl rfl) rfl rfl hl.1 rfl (lv_room (Nat.le_of_ble_eq_true rfl)) dX4_pass_45 ⟨(Nat.le_of_ble_eq_true rfl), (Nat.le_of_ble_eq_true rfl)⟩) hP hD hS hA [9, 10, 5, 6] [0, 1, 2, 3, 4, 7, 8] rfl rfl rfl (by decide) (fun r_40 u_41 H locs h_42 hP hD hS => ?_)
    subst h_42
    have hP : va_P g.1 vwCl [(oX6 p0 p1 p2 p3 p4 (nI w)), (aI g p1 24 sd), (aI g p2 10 fn), (aI g p3 6 st), (aI g p4 6 me), (aI g t2 36 wb), (aI g q1 6 (flF (fun _ => 0) sh 6)), (oX4 h0 q0 q1 (nI mm)), (aI g q0 24 (dfF (rTax (tOf sd fn) f))), (oX5 t0 t1 t2 pw), (aI g t1 6 pd)] H := hP
    have hD : va_D A [(oX6 p0 p1 p2 p3 p4 (nI w)), (aI g p1 24 sd), (aI g p2 10 fn), (aI g p3 6 st), (aI g p4 6 me), (aI g t2 36 wb), (aI g q1 6 (flF (fun _ => 0) sh 6)), (oX4 h0 q0 q1 (nI mm)), (aI g q0 24 (dfF (rTax (tOf sd fn) f))), (oX5 t0 t1 t2 pw), (aI g t1 6 pd)] := hD
    refine lv_if_eq (tgt := 71) hx hb dX4_pass_48 (by decide) (fun c_43 => ?_) (fun c_43 => ?_)
    · exact join71 (dfF (rTax (tOf sd fn) f)) (flF (fun _ => 0) sh 6) (und_d hs_22).1 (fun j _ => by rw [(und_d (sd := sd) (fn := fn) (st := st) (due := wb (mm - sg)) (q := q2) (ck := ck) (w := w) (g := (flF (fun _ => 0) sh 6)) hs_22).2]) (by unfold dfF; rw [upd_n (by decide), upd_n (by decide)]; exact mvF_n _ _ _ _ _ (by decide) (by decide)) _ _ _ (hP.sub [0, 1, 2, 3, 4, 9, 10, 5, 6, 7, 8] rfl) (hD.sub [0, 1, 2, 3, 4, 9, 10, 5, 6, 7, 8] (by decide) rfl) hS (lv_sub hl [0, 1, 2] rfl)
    · exact absurd (by decide) c_43
end
