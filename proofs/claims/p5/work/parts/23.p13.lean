set_option maxHeartbeats 4000000 in
set_option maxRecDepth 100000 in
theorem p_X10_put (l : Launch) (g : he_G) (x0 : Nat) (y0 : Nat) (z0 : Nat) (p0 : Nat) (dr : Nat) (pa : Nat) (s0 : Nat) (im : Nat) (tr : Nat) (v0 : Nat) (rf : Nat) (k : Nat) (to_ : Int32) (ki : Int32) (tp : Nat → Int32) (v : Int32) (hk : k + 4 ≤ 500) : he_V l yX10_putOnTape wsX10_putOnTape 0 0 0 0 g [.ref x0, .int v] [(oX10 x0 y0 (nI k) z0 p0 dr pa to_ s0 im ki tr v0 rf), (aB g y0 500 tp)] (fun (u : Unit) => True) (fun (u : Unit) => [(oX10 x0 y0 (nI (k + 4)) z0 p0 dr pa to_ s0 im ki tr v0 rf), (aB g y0 500 (ptT tp k v))]) := by
  refine he_begin (l := l) (g := g) (y := yX10_putOnTape) (wl := wsX10_putOnTape) (fr := 0) (lo := 0) (mc := 0) (ms := 0) (av := [.ref x0, .int v]) (ws := [(oX10 x0 y0 (nI k) z0 p0 dr pa to_ s0 im ki tr v0 rf), (aB g y0 500 tp)]) (cc := cX10_putOnTape) (maxL := 3) (ret := none) (fun A => va_Qv (fun (u : Unit) => True) (fun u t => he_post g A ((fun (u : Unit) => [(oX10 x0 y0 (nI (k + 4)) z0 p0 dr pa to_ s0 im ki tr v0 rf), (aB g y0 500 (ptT tp k v))]) u) t) A) (by decide) rfl (Nat.le_of_ble_eq_true rfl) ?_
  intro p e s m args below meth c A ls H locs Q hQ hB
  obtain ⟨hx, hb, hr, hml, hown, hts, hlk, hin, hP, hK, hD, hS, hA, hE, hl⟩ := hB
  have hl : lv_has ls 3 [(0, .ref x0), (1, .int v)] := hl
  have f73 := hts (.fieldLink RX10 73 "HiredEnemy" "taped" "I") (iwoX10_putOnTape (k := 0) rfl)
  have inX10 : ∀ w ∈ wsX100, w ∈ wsX10_putOnTape := innX10_putOnTape_X10
  have f9 := hts (.fieldLink RX10 9 "HiredEnemy" "tape" "[B") (iwoX10_putOnTape (k := 1) rfl)
  refine lv_bipush (v := 24) hx hb dX10_putOnTape_0 (by decide) ?_
  refine lv_istore_n (lv' := [(2, .int 24), (0, .ref x0), (1, .int v)]) hx hb dX10_putOnTape_2 rfl hl (by decide) rfl (fun ls hl => ?_)
  refine lv_iload_n hx hb dX10_putOnTape_3 rfl (lv_at hl 0 rfl) ?_
  refine lv_if_lt (tgt := 48) hx hb dX10_putOnTape_4 (by decide) (fun c_1 => ?_) (fun c_1 => ?_)
  · exact absurd c_1 (by decide)
  · refine lv_aload_n hx hb dX10_putOnTape_7 rfl (lv_at hl 1 rfl) ?_
    refine va_get (v := .int (nI k)) (T := TX10) (N := 13) hx hb hts inX10 hown hK hP 0 rfl rfl 1 (by decide) f73 (fun _ h9 => h9) rfl dX10_putOnTape_8 ?_
    refine lv_aload_n hx hb dX10_putOnTape_11 rfl (lv_at hl 1 rfl) ?_
    refine va_get (v := .ref y0) (T := TX10) (N := 13) hx hb hts inX10 hown hK hP 0 rfl rfl 0 (by decide) f9 (fun _ h9 => h9) rfl dX10_putOnTape_12 ?_
    refine va_alen (v := 500) hx hb hK hP 1 0 rfl rfl rfl dX10_putOnTape_15 ?_
    refine lv_icmp_ge (tgt := 48) hx hb dX10_putOnTape_16 (by decide) (fun c_2 => ?_) (fun c_2 => ?_)
    · exact absurd c_2 (fun h9 => absurd ((he_cle (a := 500) (b := k) (by decide) rfl (by decide) (by omega)).mp h9) (by omega))
    · refine lv_aload_n hx hb dX10_putOnTape_19 rfl (lv_at hl 1 rfl) ?_
      refine va_get (v := .ref y0) (T := TX10) (N := 13) hx hb hts inX10 hown hK hP 0 rfl rfl 0 (by decide) f9 (fun _ h9 => h9) rfl dX10_putOnTape_20 ?_
      refine lv_aload_n hx hb dX10_putOnTape_23 rfl (lv_at hl 1 rfl) ?_
      refine va_get (v := .int (nI k)) (T := TX10) (N := 13) hx hb hts inX10 hown hK hP 0 rfl rfl 1 (by decide) f73 (fun _ h9 => h9) rfl dX10_putOnTape_24 ?_
      refine lv_iload_n hx hb dX10_putOnTape_27 rfl (lv_at hl 2 rfl) ?_
      refine lv_iload_n hx hb dX10_putOnTape_28 rfl (lv_at hl 0 rfl) ?_
      obtain ⟨us_3, eus_3⟩ : ∃ z : Int32, (Int32.toUInt32 v >>> (Int32.toUInt32 24 &&& Int32.toUInt32 31)).toInt32 = z := ⟨_, rfl⟩
      refine lv_iushr (v := us_3) hx hb dX10_putOnTape_29 eus_3 ?_
      obtain ⟨ib_4, eib_4⟩ : ∃ z : Int32, (Int32.toInt8 us_3).toInt32 = z := ⟨_, rfl⟩
      refine lv_i2b (v := ib_4) hx hb dX10_putOnTape_30 eib_4 ?_
      refine he_bast hx hb hK hP hD hS 1 rfl (k) rfl (by first | assumption | decide | omega) (by first | decide | assumption) dX10_putOnTape_31 (fun H locs hP hD hS => ?_)
      have hP : va_P g.1 vwCl [(oX10 x0 y0 (nI k) z0 p0 dr pa to_ s0 im ki tr v0 rf), (aB g y0 500 (upd tp k (vp_nar .byte ib_4)))] H := hP
      have hD : va_D A [(oX10 x0 y0 (nI k) z0 p0 dr pa to_ s0 im ki tr v0 rf), (aB g y0 500 (upd tp k (vp_nar .byte ib_4)))] := hD
      have hb9 : vp_nar .byte ib_4 = sbI (btN v 0) := (by rw [← eib_4, ← eus_3]; exact bc_put (by decide))
      rw [hb9] at hP hD
      have hP : va_P g.1 vwCl [(oX10 x0 y0 (nI k) z0 p0 dr pa to_ s0 im ki tr v0 rf), (aB g y0 500 (upd tp k (sbI (btN v 0))))] H := hP
      have hD : va_D A [(oX10 x0 y0 (nI k) z0 p0 dr pa to_ s0 im ki tr v0 rf), (aB g y0 500 (upd tp k (sbI (btN v 0))))] := hD
      refine lv_aload_n hx hb dX10_putOnTape_32 rfl (lv_at hl 1 rfl) ?_
      refine lv_dup hx hb dX10_putOnTape_33 rfl ?_
      refine va_get (v := .int (nI k)) (T := TX10) (N := 13) hx hb hts inX10 hown hK hP 0 rfl rfl 1 (by decide) f73 (fun _ h9 => h9) rfl dX10_putOnTape_34 ?_
      refine lv_iconst (v := 1) hx hb dX10_putOnTape_37 (by decide) ?_
      refine lv_iadd hx hb dX10_putOnTape_38 ?_
      refine he_top (nI (k + 1)) (nI_add k 1) ?_
      refine va_put (v := .int (nI (k + 1))) (ty := .int) (T := TX10) (N := 13) hx hb hts inX10 tyX10 tyX10_ok nmX10 hown hK hP hD hS 0 rfl rfl 1 (by decide) f73 (fun _ h9 => h9) rfl (by decide +kernel) rfl rfl (Nat.le_of_ble_eq_true rfl) dX10_putOnTape_39 (fun H locs hP hD hS => ?_)
      have hP : va_P g.1 vwCl [(oX10 x0 y0 (nI (k + 1)) z0 p0 dr pa to_ s0 im ki tr v0 rf), (aB g y0 500 (upd tp k (sbI (btN v 0))))] H := hP
      have hD : va_D A [(oX10 x0 y0 (nI (k + 1)) z0 p0 dr pa to_ s0 im ki tr v0 rf), (aB g y0 500 (upd tp k (sbI (btN v 0))))] := hD
      refine lv_iinc (v := 16) (lv' := [(2, .int 16), (0, .ref x0), (1, .int v)]) hx hb dX10_putOnTape_42 hl (k := 0) rfl (by decide) (by decide) rfl (fun ls hl => ?_)
      refine lv_goto (tgt := 3) hx hb dX10_putOnTape_45 (by decide) ?_
      refine lv_iload_n hx hb dX10_putOnTape_3 rfl (lv_at hl 0 rfl) ?_
      refine lv_if_lt (tgt := 48) hx hb dX10_putOnTape_4 (by decide) (fun c_5 => ?_) (fun c_5 => ?_)
      · exact absurd c_5 (by decide)
      · refine lv_aload_n hx hb dX10_putOnTape_7 rfl (lv_at hl 1 rfl) ?_
        refine va_get (v := .int (nI (k + 1))) (T := TX10) (N := 13) hx hb hts inX10 hown hK hP 0 rfl rfl 1 (by decide) f73 (fun _ h9 => h9) rfl dX10_putOnTape_8 ?_
        refine lv_aload_n hx hb dX10_putOnTape_11 rfl (lv_at hl 1 rfl) ?_
        refine va_get (v := .ref y0) (T := TX10) (N := 13) hx hb hts inX10 hown hK hP 0 rfl rfl 0 (by decide) f9 (fun _ h9 => h9) rfl dX10_putOnTape_12 ?_
        refine va_alen (v := 500) hx hb hK hP 1 0 rfl rfl rfl dX10_putOnTape_15 ?_
        refine lv_icmp_ge (tgt := 48) hx hb dX10_putOnTape_16 (by decide) (fun c_6 => ?_) (fun c_6 => ?_)
        · exact absurd c_6 (fun h9 => absurd ((he_cle (a := 500) (b := k + 1) (by decide) rfl (by decide) (by omega)).mp h9) (by omega))
        · refine lv_aload_n hx hb dX10_putOnTape_19 rfl (lv_at hl 1 rfl) ?_
          refine va_get (v := .ref y0) (T := TX10) (N := 13) hx hb hts inX10 hown hK hP 0 rfl rfl 0 (by decide) f9 (fun _ h9 => h9) rfl dX10_putOnTape_20 ?_
          refine lv_aload_n hx hb dX10_putOnTape_23 rfl (lv_at hl 1 rfl) ?_
          refine va_get (v := .int (nI (k + 1))) (T := TX10) (N := 13) hx hb hts inX10 hown hK hP 0 rfl rfl 1 (by decide) f73 (fun _ h9 => h9) rfl dX10_putOnTape_24 ?_
          refine lv_iload_n hx hb dX10_putOnTape_27 rfl (lv_at hl 2 rfl) ?_
          refine lv_iload_n hx hb dX10_putOnTape_28 rfl (lv_at hl 0 rfl) ?_
          obtain ⟨us_7, eus_7⟩ : ∃ z : Int32, (Int32.toUInt32 v >>> (Int32.toUInt32 16 &&& Int32.toUInt32 31)).toInt32 = z := ⟨_, rfl⟩
          refine lv_iushr (v := us_7) hx hb dX10_putOnTape_29 eus_7 ?_
          obtain ⟨ib_8, eib_8⟩ : ∃ z : Int32, (Int32.toInt8 us_7).toInt32 = z := ⟨_, rfl⟩
          refine lv_i2b (v := ib_8) hx hb dX10_putOnTape_30 eib_8 ?_
          refine he_bast hx hb hK hP hD hS 1 rfl (k + 1) rfl (by first | assumption | decide | omega) (by first | decide | assumption) dX10_putOnTape_31 (fun H locs hP hD hS => ?_)
          have hP : va_P g.1 vwCl [(oX10 x0 y0 (nI (k + 1)) z0 p0 dr pa to_ s0 im ki tr v0 rf), (aB g y0 500 (upd (upd tp k (sbI (btN v 0))) (k + 1) (vp_nar .byte ib_8)))] H := hP
          have hD : va_D A [(oX10 x0 y0 (nI (k + 1)) z0 p0 dr pa to_ s0 im ki tr v0 rf), (aB g y0 500 (upd (upd tp k (sbI (btN v 0))) (k + 1) (vp_nar .byte ib_8)))] := hD
          have hb9 : vp_nar .byte ib_8 = sbI (btN v 1) := (by rw [← eib_8, ← eus_7]; exact bc_put (by decide))
          rw [hb9] at hP hD
          have hP : va_P g.1 vwCl [(oX10 x0 y0 (nI (k + 1)) z0 p0 dr pa to_ s0 im ki tr v0 rf), (aB g y0 500 (upd (upd tp k (sbI (btN v 0))) (k + 1) (sbI (btN v 1))))] H := hP
          have hD : va_D A [(oX10 x0 y0 (nI (k + 1)) z0 p0 dr pa to_ s0 im ki tr v0 rf), (aB g y0 500 (upd (upd tp k (sbI (btN v 0))) (k + 1) (sbI (btN v 1))))] := hD
          refine lv_aload_n hx hb dX10_putOnTape_32 rfl (lv_at hl 1 rfl) ?_
          refine lv_dup hx hb dX10_putOnTape_33 rfl ?_
          refine va_get (v := .int (nI (k + 1))) (T := TX10) (N := 13) hx hb hts inX10 hown hK hP 0 rfl rfl 1 (by decide) f73 (fun _ h9 => h9) rfl dX10_putOnTape_34 ?_
          refine lv_iconst (v := 1) hx hb dX10_putOnTape_37 (by decide) ?_
          refine lv_iadd hx hb dX10_putOnTape_38 ?_
          refine he_top (nI (k + 1 + 1)) (nI_add (k + 1) 1) ?_
          refine va_put (v := .int (nI (k + 1 + 1))) (ty := .int) (T := TX10) (N := 13) hx hb hts inX10 tyX10 tyX10_ok nmX10 hown hK hP hD hS 0 rfl rfl 1 (by decide) f73 (fun _ h9 => h9) rfl (by decide +kernel) rfl rfl (Nat.le_of_ble_eq_true rfl) dX10_putOnTape_39 (fun H locs hP hD hS => ?_)
          have hP : va_P g.1 vwCl [(oX10 x0 y0 (nI (k + 1 + 1)) z0 p0 dr pa to_ s0 im ki tr v0 rf), (aB g y0 500 (upd (upd tp k (sbI (btN v 0))) (k + 1) (sbI (btN v 1))))] H := hP
          have hD : va_D A [(oX10 x0 y0 (nI (k + 1 + 1)) z0 p0 dr pa to_ s0 im ki tr v0 rf), (aB g y0 500 (upd (upd tp k (sbI (btN v 0))) (k + 1) (sbI (btN v 1))))] := hD
          refine lv_iinc (v := 8) (lv' := [(2, .int 8), (0, .ref x0), (1, .int v)]) hx hb dX10_putOnTape_42 hl (k := 0) rfl (by decide) (by decide) rfl (fun ls hl => ?_)
          refine lv_goto (tgt := 3) hx hb dX10_putOnTape_45 (by decide) ?_
          refine lv_iload_n hx hb dX10_putOnTape_3 rfl (lv_at hl 0 rfl) ?_
          refine lv_if_lt (tgt := 48) hx hb dX10_putOnTape_4 (by decide) (fun c_9 => ?_) (fun c_9 => ?_)
          · exact absurd c_9 (by decide)
          · refine lv_aload_n hx hb dX10_putOnTape_7 rfl (lv_at hl 1 rfl) ?_
            refine va_get (v := .int (nI (k + 1 + 1))) (T := TX10) (N := 13) hx hb hts inX10 hown hK hP 0 rfl rfl 1 (by decide) f73 (fun _ h9 => h9) rfl dX10_putOnTape_8 ?_
            refine lv_aload_n hx hb dX10_putOnTape_11 rfl (lv_at hl 1 rfl) ?_
            refine va_get (v := .ref y0) (T := TX10) (N := 13) hx hb hts inX10 hown hK hP 0 rfl rfl 0 (by decide) f9 (fun _ h9 => h9) rfl dX10_putOnTape_12 ?_
            refine va_alen (v := 500) hx hb hK hP 1 0 rfl rfl rfl dX10_putOnTape_15 ?_
            refine lv_icmp_ge (tgt := 48) hx hb dX10_putOnTape_16 (by decide) (fun c_10 => ?_) (fun c_10 => ?_)
            · exact absurd c_10 (fun h9 => absurd ((he_cle (a := 500) (b := k + 1 + 1) (by decide) rfl (by decide) (by omega)).mp h9) (by omega))
            · refine lv_aload_n hx hb dX10_putOnTape_19 rfl (lv_at hl 1 rfl) ?_
              refine va_get (v := .ref y0) (T := TX10) (N := 13) hx hb hts inX10 hown hK hP 0 rfl rfl 0 (by decide) f9 (fun _ h9 => h9) rfl dX10_putOnTape_20 ?_
              refine lv_aload_n hx hb dX10_putOnTape_23 rfl (lv_at hl 1 rfl) ?_
              refine va_get (v := .int (nI (k + 1 + 1))) (T := TX10) (N := 13) hx hb hts inX10 hown hK hP 0 rfl rfl 1 (by decide) f73 (fun _ h9 => h9) rfl dX10_putOnTape_24 ?_
              refine lv_iload_n hx hb dX10_putOnTape_27 rfl (lv_at hl 2 rfl) ?_
              refine lv_iload_n hx hb dX10_putOnTape_28 rfl (lv_at hl 0 rfl) ?_
              obtain ⟨us_11, eus_11⟩ : ∃ z : Int32, (Int32.toUInt32 v >>> (Int32.toUInt32 8 &&& Int32.toUInt32 31)).toInt32 = z := ⟨_, rfl⟩
              refine lv_iushr (v := us_11) hx hb dX10_putOnTape_29 eus_11 ?_
              obtain ⟨ib_12, eib_12⟩ : ∃ z : Int32, (Int32.toInt8 us_11).toInt32 = z := ⟨_, rfl⟩
              refine lv_i2b (v := ib_12) hx hb dX10_putOnTape_30 eib_12 ?_
              refine he_bast hx hb hK hP hD hS 1 rfl (k + 1 + 1) rfl (by first | assumption | decide | omega) (by first | decide | assumption) dX10_putOnTape_31 (fun H locs hP hD hS => ?_)
              have hP : va_P g.1 vwCl [(oX10 x0 y0 (nI (k + 1 + 1)) z0 p0 dr pa to_ s0 im ki tr v0 rf), (aB g y0 500 (upd (upd (upd tp k (sbI (btN v 0))) (k + 1) (sbI (btN v 1))) (k + 1 + 1) (vp_nar .byte ib_12)))] H := hP
              have hD : va_D A [(oX10 x0 y0 (nI (k + 1 + 1)) z0 p0 dr pa to_ s0 im ki tr v0 rf), (aB g y0 500 (upd (upd (upd tp k (sbI (btN v 0))) (k + 1) (sbI (btN v 1))) (k + 1 + 1) (vp_nar .byte ib_12)))] := hD
              have hb9 : vp_nar .byte ib_12 = sbI (btN v 2) := (by rw [← eib_12, ← eus_11]; exact bc_put (by decide))
              rw [hb9] at hP hD
              have hP : va_P g.1 vwCl [(oX10 x0 y0 (nI (k + 1 + 1)) z0 p0 dr pa to_ s0 im ki tr v0 rf), (aB g y0 500 (upd (upd (upd tp k (sbI (btN v 0))) (k + 1) (sbI (btN v 1))) (k + 1 + 1) (sbI (btN v 2))))] H := hP
              have hD : va_D A [(oX10 x0 y0 (nI (k + 1 + 1)) z0 p0 dr pa to_ s0 im ki tr v0 rf), (aB g y0 500 (upd (upd (upd tp k (sbI (btN v 0))) (k + 1) (sbI (btN v 1))) (k + 1 + 1) (sbI (btN v 2))))] := hD
              refine lv_aload_n hx hb dX10_putOnTape_32 rfl (lv_at hl 1 rfl) ?_
              refine lv_dup hx hb dX10_putOnTape_33 rfl ?_
              refine va_get (v := .int (nI (k + 1 + 1))) (T := TX10) (N := 13) hx hb hts inX10 hown hK hP 0 rfl rfl 1 (by decide) f73 (fun _ h9 => h9) rfl dX10_putOnTape_34 ?_
              refine lv_iconst (v := 1) hx hb dX10_putOnTape_37 (by decide) ?_
              refine lv_iadd hx hb dX10_putOnTape_38 ?_
              refine he_top (nI (k + 1 + 1 + 1)) (nI_add (k + 1 + 1) 1) ?_
              refine va_put (v := .int (nI (k + 1 + 1 + 1))) (ty := .int) (T := TX10) (N := 13) hx hb hts inX10 tyX10 tyX10_ok nmX10 hown hK hP hD hS 0 rfl rfl 1 (by decide) f73 (fun _ h9 => h9) rfl (by decide +kernel) rfl rfl (Nat.le_of_ble_eq_true rfl) dX10_putOnTape_39 (fun H locs hP hD hS => ?_)
              have hP : va_P g.1 vwCl [(oX10 x0 y0 (nI (k + 1 + 1 + 1)) z0 p0 dr pa to_ s0 im ki tr v0 rf), (aB g y0 500 (upd (upd (upd tp k (sbI (btN v 0))) (k + 1) (sbI (btN v 1))) (k + 1 + 1) (sbI (btN v 2))))] H := hP
              have hD : va_D A [(oX10 x0 y0 (nI (k + 1 + 1 + 1)) z0 p0 dr pa to_ s0 im ki tr v0 rf), (aB g y0 500 (upd (upd (upd tp k (sbI (btN v 0))) (k + 1) (sbI (btN v 1))) (k + 1 + 1) (sbI (btN v 2))))] := hD
              refine lv_iinc (v := 0) (lv' := [(2, .int 0), (0, .ref x0), (1, .int v)]) hx hb dX10_putOnTape_42 hl (k := 0) rfl (by decide) (by decide) rfl (fun ls hl => ?_)
              refine lv_goto (tgt := 3) hx hb dX10_putOnTape_45 (by decide) ?_
              refine lv_iload_n hx hb dX10_putOnTape_3 rfl (lv_at hl 0 rfl) ?_
              refine lv_if_lt (tgt := 48) hx hb dX10_putOnTape_4 (by decide) (fun c_13 => ?_) (fun c_13 => ?_)
              · exact absurd c_13 (by decide)
              · refine lv_aload_n hx hb dX10_putOnTape_7 rfl (lv_at hl 1 rfl) ?_
                refine va_get (v := .int (nI (k + 1 + 1 + 1))) (T := TX10) (N := 13) hx hb hts inX10 hown hK hP 0 rfl rfl 1 (by decide) f73 (fun _ h9 => h9) rfl dX10_putOnTape_8 ?_
                refine lv_aload_n hx hb dX10_putOnTape_11 rfl (lv_at hl 1 rfl) ?_
                refine va_get (v := .ref y0) (T := TX10) (N := 13) hx hb hts inX10 hown hK hP 0 rfl rfl 0 (by decide) f9 (fun _ h9 => h9) rfl dX10_putOnTape_12 ?_
                refine va_alen (v := 500) hx hb hK hP 1 0 rfl rfl rfl dX10_putOnTape_15 ?_
                refine lv_icmp_ge (tgt := 48) hx hb dX10_putOnTape_16 (by decide) (fun c_14 => ?_) (fun c_14 => ?_)
                · exact absurd c_14 (fun h9 => absurd ((he_cle (a := 500) (b := k + 1 + 1 + 1) (by decide) rfl (by decide) (by omega)).mp h9) (by omega))
                · refine lv_aload_n hx hb dX10_putOnTape_19 rfl (lv_at hl 1 rfl) ?_
                  refine va_get (v := .ref y0) (T := TX10) (N := 13) hx hb hts inX10 hown hK hP 0 rfl rfl 0 (by decide) f9 (fun _ h9 => h9) rfl dX10_putOnTape_20 ?_
                  refine lv_aload_n hx hb dX10_putOnTape_23 rfl (lv_at hl 1 rfl) ?_
                  refine va_get (v := .int (nI (k + 1 + 1 + 1))) (T := TX10) (N := 13) hx hb hts inX10 hown hK hP 0 rfl rfl 1 (by decide) f73 (fun _ h9 => h9) rfl dX10_putOnTape_24 ?_
                  refine lv_iload_n hx hb dX10_putOnTape_27 rfl (lv_at hl 2 rfl) ?_
                  refine lv_iload_n hx hb dX10_putOnTape_28 rfl (lv_at hl 0 rfl) ?_
                  obtain ⟨us_15, eus_15⟩ : ∃ z : Int32, (Int32.toUInt32 v >>> (Int32.toUInt32 0 &&& Int32.toUInt32 31)).toInt32 = z := ⟨_, rfl⟩
                  refine lv_iushr (v := us_15) hx hb dX10_putOnTape_29 eus_15 ?_
                  obtain ⟨ib_16, eib_16⟩ : ∃ z : Int32, (Int32.toInt8 us_15).toInt32 = z := ⟨_, rfl⟩
                  refine lv_i2b (v := ib_16) hx hb dX10_putOnTape_30 eib_16 ?_
                  refine he_bast hx hb hK hP hD hS 1 rfl (k + 1 + 1 + 1) rfl (by first | assumption | decide | omega) (by first | decide | assumption) dX10_putOnTape_31 (fun H locs hP hD hS => ?_)
                  have hP : va_P g.1 vwCl [(oX10 x0 y0 (nI (k + 1 + 1 + 1)) z0 p0 dr pa to_ s0 im ki tr v0 rf), (aB g y0 500 (upd (upd (upd (upd tp k (sbI (btN v 0))) (k + 1) (sbI (btN v 1))) (k + 1 + 1) (sbI (btN v 2))) (k + 1 + 1 + 1) (vp_nar .byte ib_16)))] H := hP
                  have hD : va_D A [(oX10 x0 y0 (nI (k + 1 + 1 + 1)) z0 p0 dr pa to_ s0 im ki tr v0 rf), (aB g y0 500 (upd (upd (upd (upd tp k (sbI (btN v 0))) (k + 1) (sbI (btN v 1))) (k + 1 + 1) (sbI (btN v 2))) (k + 1 + 1 + 1) (vp_nar .byte ib_16)))] := hD
                  have hb9 : vp_nar .byte ib_16 = sbI (btN v 3) := (by rw [← eib_16, ← eus_15]; exact bc_put (by decide))
                  rw [hb9] at hP hD
                  have hP : va_P g.1 vwCl [(oX10 x0 y0 (nI (k + 1 + 1 + 1)) z0 p0 dr pa to_ s0 im ki tr v0 rf), (aB g y0 500 (upd (upd (upd (upd tp k (sbI (btN v 0))) (k + 1) (sbI (btN v 1))) (k + 1 + 1) (sbI (btN v 2))) (k + 1 + 1 + 1) (sbI (btN v 3))))] H := hP
                  have hD : va_D A [(oX10 x0 y0 (nI (k + 1 + 1 + 1)) z0 p0 dr pa to_ s0 im ki tr v0 rf), (aB g y0 500 (upd (upd (upd (upd tp k (sbI (btN v 0))) (k + 1) (sbI (btN v 1))) (k + 1 + 1) (sbI (btN v 2))) (k + 1 + 1 + 1) (sbI (btN v 3))))] := hD
                  refine lv_aload_n hx hb dX10_putOnTape_32 rfl (lv_at hl 1 rfl) ?_
                  refine lv_dup hx hb dX10_putOnTape_33 rfl ?_
                  refine va_get (v := .int (nI (k + 1 + 1 + 1))) (T := TX10) (N := 13) hx hb hts inX10 hown hK hP 0 rfl rfl 1 (by decide) f73 (fun _ h9 => h9) rfl dX10_putOnTape_34 ?_
                  refine lv_iconst (v := 1) hx hb dX10_putOnTape_37 (by decide) ?_
                  refine lv_iadd hx hb dX10_putOnTape_38 ?_
                  refine he_top (nI (k + 1 + 1 + 1 + 1)) (nI_add (k + 1 + 1 + 1) 1) ?_
                  refine va_put (v := .int (nI (k + 1 + 1 + 1 + 1))) (ty := .int) (T := TX10) (N := 13) hx hb hts inX10 tyX10 tyX10_ok nmX10 hown hK hP hD hS 0 rfl rfl 1 (by decide) f73 (fun _ h9 => h9) rfl (by decide +kernel) rfl rfl (Nat.le_of_ble_eq_true rfl) dX10_putOnTape_39 (fun H locs hP hD hS => ?_)
                  have hP : va_P g.1 vwCl [(oX10 x0 y0 (nI (k + 1 + 1 + 1 + 1)) z0 p0 dr pa to_ s0 im ki tr v0 rf), (aB g y0 500 (upd (upd (upd (upd tp k (sbI (btN v 0))) (k + 1) (sbI (btN v 1))) (k + 1 + 1) (sbI (btN v 2))) (k + 1 + 1 + 1) (sbI (btN v 3))))] H := hP
                  have hD : va_D A [(oX10 x0 y0 (nI (k + 1 + 1 + 1 + 1)) z0 p0 dr pa to_ s0 im ki tr v0 rf), (aB g y0 500 (upd (upd (upd (upd tp k (sbI (btN v 0))) (k + 1) (sbI (btN v 1))) (k + 1 + 1) (sbI (btN v 2))) (k + 1 + 1 + 1) (sbI (btN v 3))))] := hD
                  refine lv_iinc (v := (-8)) (lv' := [(2, .int (-8)), (0, .ref x0), (1, .int v)]) hx hb dX10_putOnTape_42 hl (k := 0) rfl (by decide) (by decide) rfl (fun ls hl => ?_)
                  refine lv_goto (tgt := 3) hx hb dX10_putOnTape_45 (by decide) ?_
                  refine lv_iload_n hx hb dX10_putOnTape_3 rfl (lv_at hl 0 rfl) ?_
                  refine lv_if_lt (tgt := 48) hx hb dX10_putOnTape_4 (by decide) (fun c_17 => ?_) (fun c_17 => ?_)
                  · exact he_rv hQ hx hb hr hlk hP hD hS dX10_putOnTape_48 (Nat.le_of_ble_eq_true rfl) (Nat.le_of_ble_eq_true rfl) (()) (rfl) (trivial)
                  · exact absurd (by decide) c_17
set_option maxHeartbeats 4000000 in
set_option maxRecDepth 100000 in
theorem p_X10_feed (l : Launch) (g : he_G) (x0 : Nat) (y0 : Nat) (z0 : Nat) (p0 : Nat) (dr : Nat) (pa : Nat) (s0 : Nat) (im : Nat) (tr : Nat) (v0 : Nat) (rf : Nat) (k : Nat) (to_ : Int32) (ki : Int32) (tp : Nat → Int32) (v1 : Int32) (v2 : Int32) (v3 : Int32) (v4 : Int32) (v5 : Int32) (hk : k + 20 ≤ 500) : he_I l yX10_feed wsX10_feed 1 22 0 0 g [.ref x0, .int v1, .int v2, .int v3, .int v4, .int v5] [(oX10 x0 y0 (nI k) z0 p0 dr pa to_ s0 im ki tr v0 rf), (aB g y0 500 tp)] (fun (r : Int32) (u : Unit) => r = nI (k + 4 + 4 + 4 + 4 + 4)) (fun (u : Unit) => [(oX10 x0 y0 (nI (k + 4 + 4 + 4 + 4 + 4)) z0 p0 dr pa to_ s0 im ki tr v0 rf), (aB g y0 500 (ptT5 tp k v1 v2 v3 v4 v5))]) := by
  refine he_begin (l := l) (g := g) (y := yX10_feed) (wl := wsX10_feed) (fr := 1) (lo := 22) (mc := 0) (ms := 0) (av := [.ref x0, .int v1, .int v2, .int v3, .int v4, .int v5]) (ws := [(oX10 x0 y0 (nI k) z0 p0 dr pa to_ s0 im ki tr v0 rf), (aB g y0 500 tp)]) (cc := cX10_feed) (maxL := 6) (ret := (some .int)) (fun A => va_Qi (fun (r : Int32) (u : Unit) => r = nI (k + 4 + 4 + 4 + 4 + 4)) (fun u t => he_post g A ((fun (u : Unit) => [(oX10 x0 y0 (nI (k + 4 + 4 + 4 + 4 + 4)) z0 p0 dr pa to_ s0 im ki tr v0 rf), (aB g y0 500 (ptT5 tp k v1 v2 v3 v4 v5))]) u) t) A) (by decide) rfl (Nat.le_of_ble_eq_true rfl) ?_
  intro p e s m args below meth c A ls H locs Q hQ hB
  obtain ⟨hx, hb, hr, hml, hown, hts, hlk, hin, hP, hK, hD, hS, hA, hE, hl⟩ := hB
  have hl : lv_has ls 6 [(0, .ref x0), (1, .int v1), (2, .int v2), (3, .int v3), (4, .int v4), (5, .int v5)] := hl
  have f73 := hts (.fieldLink RX10 73 "HiredEnemy" "taped" "I") (iwoX10_feed (k := 0) rfl)
  have inX10 : ∀ w ∈ wsX100, w ∈ wsX10_feed := innX10_feed_X10
  refine lv_aload_n hx hb dX10_feed_0 rfl (lv_at hl 0 rfl) ?_
  refine va_get (v := .int (nI k)) (T := TX10) (N := 13) hx hb hts inX10 hown hK hP 0 rfl rfl 1 (by decide) f73 (fun _ h9 => h9) rfl dX10_feed_1 ?_
  refine lv_bipush (v := 20) hx hb dX10_feed_4 (by decide) ?_
  refine lv_iadd hx hb dX10_feed_6 ?_
  refine he_top (nI (k + 20)) (nI_add k 20) ?_
  refine lv_sipush (v := 500) hx hb dX10_feed_7 (by decide) ?_
  refine lv_icmp_le (tgt := 15) hx hb dX10_feed_10 (by decide) (fun c_1 => ?_) (fun c_1 => ?_)
  · refine lv_aload_n hx hb dX10_feed_15 rfl (lv_at hl 0 rfl) ?_
    refine lv_iload_n hx hb dX10_feed_16 rfl (lv_at hl 1 rfl) ?_
    refine he_cv (wc := [(oX10 x0 y0 (nI k) z0 p0 dr pa to_ s0 im ki tr v0 rf), (aB g y0 500 tp)]) (wr := []) (va_runV (As := [.int v1]) (rest := []) ⟨hx, hb, hml, hown, hts⟩ (p_X10_put l g x0 y0 z0 p0 dr pa s0 im tr v0 rf k to_ ki tp v1 (by first | assumption | decide | omega) H.size) (cwV 1 hts gX10_feed_X10_putOnTape rfl rfl rfl (by decide +kernel) ⟨Nat.le_of_ble_eq_true rfl, Nat.le_of_ble_eq_true rfl⟩) (he_preV (wc := [(oX10 x0 y0 (nI k) z0 p0 dr pa to_ s0 im ki tr v0 rf), (aB g y0 500 tp)]) hK hP hD hS hA hE [0, 1] rfl rfl 0 rfl rfl) rfl rfl hl.1 rfl (lv_room (Nat.le_of_ble_eq_true rfl)) dX10_feed_17 ⟨(Nat.le_of_ble_eq_true rfl), (Nat.le_of_ble_eq_true rfl)⟩) hP hD hS hA [0, 1] [] rfl rfl rfl (by decide) (fun u_3 H locs h_4 hP hD hS => ?_)
    have hP : va_P g.1 vwCl [(oX10 x0 y0 (nI (k + 4)) z0 p0 dr pa to_ s0 im ki tr v0 rf), (aB g y0 500 (ptT tp k v1))] H := hP
    have hD : va_D A [(oX10 x0 y0 (nI (k + 4)) z0 p0 dr pa to_ s0 im ki tr v0 rf), (aB g y0 500 (ptT tp k v1))] := hD
    refine lv_aload_n hx hb dX10_feed_20 rfl (lv_at hl 0 rfl) ?_
    refine lv_iload_n hx hb dX10_feed_21 rfl (lv_at hl 2 rfl) ?_
    refine he_cv (wc := [(oX10 x0 y0 (nI (k + 4)) z0 p0 dr pa to_ s0 im ki tr v0 rf), (aB g y0 500 (ptT tp k v1))]) (wr := []) (va_runV (As := [.int v2]) (rest := []) ⟨hx, hb, hml, hown, hts⟩ (p_X10_put l g x0 y0 z0 p0 dr pa s0 im tr v0 rf (k + 4) to_ ki (ptT tp k v1) v2 (by first | assumption | decide | omega) H.size) (cwV 1 hts gX10_feed_X10_putOnTape rfl rfl rfl (by decide +kernel) ⟨Nat.le_of_ble_eq_true rfl, Nat.le_of_ble_eq_true rfl⟩) (he_preV (wc := [(oX10 x0 y0 (nI (k + 4)) z0 p0 dr pa to_ s0 im ki tr v0 rf), (aB g y0 500 (ptT tp k v1))]) hK hP hD hS hA hE [0, 1] rfl rfl 0 rfl rfl) rfl rfl hl.1 rfl (lv_room (Nat.le_of_ble_eq_true rfl)) dX10_feed_22 ⟨(Nat.le_of_ble_eq_true rfl), (Nat.le_of_ble_eq_true rfl)⟩) hP hD hS hA [0, 1] [] rfl rfl rfl (by decide) (fun u_6 H locs h_7 hP hD hS => ?_)
    have hP : va_P g.1 vwCl [(oX10 x0 y0 (nI ((k + 4) + 4)) z0 p0 dr pa to_ s0 im ki tr v0 rf), (aB g y0 500 (ptT (ptT tp k v1) (k + 4) v2))] H := hP
    have hD : va_D A [(oX10 x0 y0 (nI ((k + 4) + 4)) z0 p0 dr pa to_ s0 im ki tr v0 rf), (aB g y0 500 (ptT (ptT tp k v1) (k + 4) v2))] := hD
    refine lv_aload_n hx hb dX10_feed_25 rfl (lv_at hl 0 rfl) ?_
    refine lv_iload_n hx hb dX10_feed_26 rfl (lv_at hl 3 rfl) ?_
    refine he_cv (wc := [(oX10 x0 y0 (nI ((k + 4) + 4)) z0 p0 dr pa to_ s0 im ki tr v0 rf), (aB g y0 500 (ptT (ptT tp k v1) (k + 4) v2))]) (wr := []) (va_runV (As := [.int v3]) (rest := []) ⟨hx, hb, hml, hown, hts⟩ (p_X10_put l g x0 y0 z0 p0 dr pa s0 im tr v0 rf ((k + 4) + 4) to_ ki (ptT (ptT tp k v1) (k + 4) v2) v3 (by first | assumption | decide | omega) H.size) (cwV 1 hts gX10_feed_X10_putOnTape rfl rfl rfl (by decide +kernel) ⟨Nat.le_of_ble_eq_true rfl, Nat.le_of_ble_eq_true rfl⟩) (he_preV (wc := [(oX10 x0 y0 (nI ((k + 4) + 4)) z0 p0 dr pa to_ s0 im ki tr v0 rf), (aB g y0 500 (ptT (ptT tp k v1) (k + 4) v2))]) hK hP hD hS hA hE [0, 1] rfl rfl 0 rfl rfl) rfl rfl hl.1 rfl (lv_room (Nat.le_of_ble_eq_true rfl)) dX10_feed_27 ⟨(Nat.le_of_ble_eq_true rfl), (Nat.le_of_ble_eq_true rfl)⟩) hP hD hS hA [0, 1] [] rfl rfl rfl (by decide) (fun u_9 H locs h_10 hP hD hS => ?_)
    have hP : va_P g.1 vwCl [(oX10 x0 y0 (nI (((k + 4) + 4) + 4)) z0 p0 dr pa to_ s0 im ki tr v0 rf), (aB g y0 500 (ptT (ptT (ptT tp k v1) (k + 4) v2) ((k + 4) + 4) v3))] H := hP
    have hD : va_D A [(oX10 x0 y0 (nI (((k + 4) + 4) + 4)) z0 p0 dr pa to_ s0 im ki tr v0 rf), (aB g y0 500 (ptT (ptT (ptT tp k v1) (k + 4) v2) ((k + 4) + 4) v3))] := hD
    refine lv_aload_n hx hb dX10_feed_30 rfl (lv_at hl 0 rfl) ?_
    refine lv_iload hx hb dX10_feed_31 (lv_at hl 4 rfl) ?_
    refine he_cv (wc := [(oX10 x0 y0 (nI (((k + 4) + 4) + 4)) z0 p0 dr pa to_ s0 im ki tr v0 rf), (aB g y0 500 (ptT (ptT (ptT tp k v1) (k + 4) v2) ((k + 4) + 4) v3))]) (wr := []) (va_runV (As := [.int v4]) (rest := []) ⟨hx, hb, hml, hown, hts⟩ (p_X10_put l g x0 y0 z0 p0 dr pa s0 im tr v0 rf (((k + 4) + 4) + 4) to_ ki (ptT (ptT (ptT tp k v1) (k + 4) v2) ((k + 4) + 4) v3) v4 (by first | assumption | decide | omega) H.size) (cwV 1 hts gX10_feed_X10_putOnTape rfl rfl rfl (by decide +kernel) ⟨Nat.le_of_ble_eq_true rfl, Nat.le_of_ble_eq_true rfl⟩) (he_preV (wc := [(oX10 x0 y0 (nI (((k + 4) + 4) + 4)) z0 p0 dr pa to_ s0 im ki tr v0 rf), (aB g y0 500 (ptT (ptT (ptT tp k v1) (k + 4) v2) ((k + 4) + 4) v3))]) hK hP hD hS hA hE [0, 1] rfl rfl 0 rfl rfl) rfl rfl hl.1 rfl (lv_room (Nat.le_of_ble_eq_true rfl)) dX10_feed_33 ⟨(Nat.le_of_ble_eq_true rfl), (Nat.le_of_ble_eq_true rfl)⟩) hP hD hS hA [0, 1] [] rfl rfl rfl (by decide) (fun u_12 H locs h_13 hP hD hS => ?_)
    have hP : va_P g.1 vwCl [(oX10 x0 y0 (nI ((((k + 4) + 4) + 4) + 4)) z0 p0 dr pa to_ s0 im ki tr v0 rf), (aB g y0 500 (ptT (ptT (ptT (ptT tp k v1) (k + 4) v2) ((k + 4) + 4) v3) (((k + 4) + 4) + 4) v4))] H := hP
    have hD : va_D A [(oX10 x0 y0 (nI ((((k + 4) + 4) + 4) + 4)) z0 p0 dr pa to_ s0 im ki tr v0 rf), (aB g y0 500 (ptT (ptT (ptT (ptT tp k v1) (k + 4) v2) ((k + 4) + 4) v3) (((k + 4) + 4) + 4) v4))] := hD
    refine lv_aload_n hx hb dX10_feed_36 rfl (lv_at hl 0 rfl) ?_
    refine lv_iload hx hb dX10_feed_37 (lv_at hl 5 rfl) ?_
    refine he_cv (wc := [(oX10 x0 y0 (nI ((((k + 4) + 4) + 4) + 4)) z0 p0 dr pa to_ s0 im ki tr v0 rf), (aB g y0 500 (ptT (ptT (ptT (ptT tp k v1) (k + 4) v2) ((k + 4) + 4) v3) (((k + 4) + 4) + 4) v4))]) (wr := []) (va_runV (As := [.int v5]) (rest := []) ⟨hx, hb, hml, hown, hts⟩ (p_X10_put l g x0 y0 z0 p0 dr pa s0 im tr v0 rf ((((k + 4) + 4) + 4) + 4) to_ ki (ptT (ptT (ptT (ptT tp k v1) (k + 4) v2) ((k + 4) + 4) v3) (((k + 4) + 4) + 4) v4) v5 (by first | assumption | decide | omega) H.size) (cwV 1 hts gX10_feed_X10_putOnTape rfl rfl rfl (by decide +kernel) ⟨Nat.le_of_ble_eq_true rfl, Nat.le_of_ble_eq_true rfl⟩) (he_preV (wc := [(oX10 x0 y0 (nI ((((k + 4) + 4) + 4) + 4)) z0 p0 dr pa to_ s0 im ki tr v0 rf), (aB g y0 500 (ptT (ptT (ptT (ptT tp k v1) (k + 4) v2) ((k + 4) + 4) v3) (((k + 4) + 4) + 4) v4))]) hK hP hD hS hA hE [0, 1] rfl rfl 0 rfl rfl) rfl rfl hl.1 rfl (lv_room (Nat.le_of_ble_eq_true rfl)) dX10_feed_39 ⟨(Nat.le_of_ble_eq_true rfl), (Nat.le_of_ble_eq_true rfl)⟩) hP hD hS hA [0, 1] [] rfl rfl rfl (by decide) (fun u_15 H locs h_16 hP hD hS => ?_)
    have hP : va_P g.1 vwCl [(oX10 x0 y0 (nI (((((k + 4) + 4) + 4) + 4) + 4)) z0 p0 dr pa to_ s0 im ki tr v0 rf), (aB g y0 500 (ptT (ptT (ptT (ptT (ptT tp k v1) (k + 4) v2) ((k + 4) + 4) v3) (((k + 4) + 4) + 4) v4) ((((k + 4) + 4) + 4) + 4) v5))] H := hP
    have hD : va_D A [(oX10 x0 y0 (nI (((((k + 4) + 4) + 4) + 4) + 4)) z0 p0 dr pa to_ s0 im ki tr v0 rf), (aB g y0 500 (ptT (ptT (ptT (ptT (ptT tp k v1) (k + 4) v2) ((k + 4) + 4) v3) (((k + 4) + 4) + 4) v4) ((((k + 4) + 4) + 4) + 4) v5))] := hD
    refine lv_aload_n hx hb dX10_feed_42 rfl (lv_at hl 0 rfl) ?_
    refine va_get (v := .int (nI (((((k + 4) + 4) + 4) + 4) + 4))) (T := TX10) (N := 13) hx hb hts inX10 hown hK hP 0 rfl rfl 1 (by decide) f73 (fun _ h9 => h9) rfl dX10_feed_43 ?_
    exact he_ri hQ hx hb hr hlk hP hD hS dX10_feed_46 (Nat.le_of_ble_eq_true rfl) (Nat.le_of_ble_eq_true rfl) (()) (rfl) (rfl)
  · exact absurd ((he_cle (a := k + 20) (b := 500) rfl (by decide) (by omega) (by decide)).mpr (by omega)) c_1
set_option maxHeartbeats 4000000 in
set_option maxRecDepth 100000 in
theorem p_X10_siege (l : Launch) (g : he_G) (x0 : Nat) (y0 : Nat) (z0 : Nat) (dr : Nat) (pa : Nat) (s0 : Nat) (im : Nat) (tr : Nat) (v0 : Nat) (rf : Nat) (k : Nat) (to_ : Int32) (ki : Int32) (p0 : Nat) (p1 : Nat) (p2 : Nat) (p3 : Nat) (p4 : Nat) (w : Nat) (sd : Nat → Int32) (fn : Nat → Int32) (st : Nat → Int32) (me : Nat → Int32) (d1 : Nat) (d2 : Nat) (d3 : Nat) (d4 : Nat) (dw : Int32) (e0_ : Nat → Int32) (e1_ : Nat → Int32) (e2_ : Nat → Int32) (e3_ : Nat → Int32) (z1 : Nat) (y1 : Nat) (n1 : Int32) (at1 : Int32) (fa : Int32) (pl : Int32) (tp : Nat → Int32) (nu : Nat → Int32) (n : Nat) (a0 : Nat) (b0 : Nat) (e0 : Nat) (h0 : Nat) (q0 : Nat) (q1 : Nat) (mo : Int32) (f : Nat → Int32) (x : Int32) (y : Int32) (rl : Int64) (hd : Int64) (th : Int32) (b1 : Nat) (b2 : Nat) (e1 : Nat) (e2 : Nat) (co : Nat → Int32) (T : Nat → Nat) (hnk : n ≤ k) (hk5 : k ≤ 500) (hw6 : w ≤ 6) (hT : ∀ j, j < n → T j < 256 ∧ tp j = sbI (T j)) : he_I l yX10_siege wsX10_siege 8 185 0 0 g [.ref x0, .int (nI n)] [(oX10 x0 y0 (nI k) z0 p0 dr pa to_ s0 im ki tr v0 rf), (oX6 p0 p1 p2 p3 p4 (nI w)), (aI g p1 24 sd), (aI g p2 10 fn), (aI g p3 6 st), (aI g p4 6 me), (oX6 dr d1 d2 d3 d4 dw), (aI g d1 24 e0_), (aI g d2 10 e1_), (aI g d3 6 e2_), (aI g d4 6 e3_), (oX7 z0 y1 n1 at1 fa pl z1), (aB g y0 500 tp), (aI g z1 3 nu), (oX8 s0 h0 a0 b0 e0), (oX4 h0 q0 q1 mo), (aI g q0 24 f), (oX2 b0 b1 b2 x y rl hd th), (oX3 e0 e1 e2), (aI g e1 36 co)] (fun (r : Int32) (u : Nat × Nat × Int32 × Int32 × Nat × Int32 × Int32 × (Nat → Int32) × Nat × (Nat → Int32) × (Nat → Int32) × (Nat → Int32) × (Nat → Int32) × Int32 × (Nat → Int32) × Int64 × Int64 × Int32 × (Nat → Int32)) => u.2.2.2.2.2.2.2.2.1 ≤ 6 ∧ ((u.1 = p0 ∧ u.2.1 = dr ∧ u.2.2.1 = to_ ∧ u.2.2.2.1 = ki ∧ u.2.2.2.2.2.2.2.2.2.2.2.2.2.1 = mo ∧ u.2.2.2.2.2.2.2.2.2.2.2.2.2.2.1 = f ∧ u.2.2.2.2.2.2.2.2.2.2.2.2.2.2.2.1 = rl ∧ u.2.2.2.2.2.2.2.2.2.2.2.2.2.2.2.2.1 = hd ∧ u.2.2.2.2.2.2.2.2.2.2.2.2.2.2.2.2.2.1 = th ∧ u.2.2.2.2.2.2.2.2.2.2.2.2.2.2.2.2.2.2 = co ∧ ¬ u.2.2.2.2.2.1 = 0 ∧ r = u.2.2.2.2.2.1 - 10) ∨ (u.1 = dr ∧ u.2.1 = p0 ∧ u.2.2.1 = 0 ∧ u.2.2.2.1 = 0 ∧ u.2.2.2.2.2.2.2.2.2.2.2.2.2.1 = 0 ∧ u.2.2.2.2.2.2.2.2.2.2.2.2.2.2.2.2.2.1 = 0 ∧ u.2.2.2.2.2.2.2.2.2.2.2.2.2.2.2.2.2.2 = flF (fun _ => 0) co 36 ∧ u.2.2.2.2.2.2.2.2.2.2.2.2.2.2.1 = beginF u.2.2.2.2.2.2.2.2.2.1 u.2.2.2.2.2.2.2.2.2.2.2.1 u.2.2.2.2.2.2.2.2.1 f ∧ u.2.2.2.2.2.1 = 0 ∧ r = nI u.2.2.2.2.2.2.2.2.1)) ∧ u.2.2.2.2.2.1 = faC (txP T n wl6 bd6 fl6 61 0 0 0).1 ∧ u.2.2.2.2.2.2.1 = faP (txP T n wl6 bd6 fl6 61 0 0 0).1 ∧ u.2.2.2.2.2.2.2.2.1 = fdW (txP T n wl6 bd6 fl6 61 0 0 0).2 0 ∧ u.2.2.2.2.2.2.2.2.2.1 = fdD (txP T n wl6 bd6 fl6 61 0 0 0).2 (flF unF e0_ 24) ∧ u.2.2.2.2.2.2.2.2.2.2.1 = fdN (txP T n wl6 bd6 fl6 61 0 0 0).2 (flF nrF e1_ 10) ∧ u.2.2.2.2.2.2.2.2.2.2.2.1 = fdT (txP T n wl6 bd6 fl6 61 0 0 0).2 0 e2_ ∧ u.2.2.2.2.2.2.2.2.2.2.2.2.1 = fdM (txP T n wl6 bd6 fl6 61 0 0 0).2 0 e3_) (fun (u : Nat × Nat × Int32 × Int32 × Nat × Int32 × Int32 × (Nat → Int32) × Nat × (Nat → Int32) × (Nat → Int32) × (Nat → Int32) × (Nat → Int32) × Int32 × (Nat → Int32) × Int64 × Int64 × Int32 × (Nat → Int32)) => [(oX10 x0 y0 0 z0 u.1 u.2.1 pa u.2.2.1 s0 im u.2.2.2.1 tr v0 rf), (oX6 p0 p1 p2 p3 p4 (nI w)), (aI g p1 24 sd), (aI g p2 10 fn), (aI g p3 6 st), (aI g p4 6 me), (oX6 dr d1 d2 d3 d4 (nI u.2.2.2.2.2.2.2.2.1)), (aI g d1 24 u.2.2.2.2.2.2.2.2.2.1), (aI g d2 10 u.2.2.2.2.2.2.2.2.2.2.1), (aI g d3 6 u.2.2.2.2.2.2.2.2.2.2.2.1), (aI g d4 6 u.2.2.2.2.2.2.2.2.2.2.2.2.1), (oX7 z0 y0 (nI n) (nI u.2.2.2.2.1) u.2.2.2.2.2.1 u.2.2.2.2.2.2.1 z1), (aB g y0 500 tp), (aI g z1 3 u.2.2.2.2.2.2.2.1), (oX8 s0 h0 a0 b0 e0), (oX4 h0 q0 q1 u.2.2.2.2.2.2.2.2.2.2.2.2.2.1), (aI g q0 24 u.2.2.2.2.2.2.2.2.2.2.2.2.2.2.1), (oX2 b0 b1 b2 x y u.2.2.2.2.2.2.2.2.2.2.2.2.2.2.2.1 u.2.2.2.2.2.2.2.2.2.2.2.2.2.2.2.2.1 u.2.2.2.2.2.2.2.2.2.2.2.2.2.2.2.2.2.1), (oX3 e0 e1 e2), (aI g e1 36 u.2.2.2.2.2.2.2.2.2.2.2.2.2.2.2.2.2.2)]) := by
  refine he_begin (l := l) (g := g) (y := yX10_siege) (wl := wsX10_siege) (fr := 8) (lo := 185) (mc := 0) (ms := 0) (av := [.ref x0, .int (nI n)]) (ws := [(oX10 x0 y0 (nI k) z0 p0 dr pa to_ s0 im ki tr v0 rf), (oX6 p0 p1 p2 p3 p4 (nI w)), (aI g p1 24 sd), (aI g p2 10 fn), (aI g p3 6 st), (aI g p4 6 me), (oX6 dr d1 d2 d3 d4 dw), (aI g d1 24 e0_), (aI g d2 10 e1_), (aI g d3 6 e2_), (aI g d4 6 e3_), (oX7 z0 y1 n1 at1 fa pl z1), (aB g y0 500 tp), (aI g z1 3 nu), (oX8 s0 h0 a0 b0 e0), (oX4 h0 q0 q1 mo), (aI g q0 24 f), (oX2 b0 b1 b2 x y rl hd th), (oX3 e0 e1 e2), (aI g e1 36 co)]) (cc := cX10_siege) (maxL := 4) (ret := (some .int)) (fun A => va_Qi (fun (r : Int32) (u : Nat × Nat × Int32 × Int32 × Nat × Int32 × Int32 × (Nat → Int32) × Nat × (Nat → Int32) × (Nat → Int32) × (Nat → Int32) × (Nat → Int32) × Int32 × (Nat → Int32) × Int64 × Int64 × Int32 × (Nat → Int32)) => u.2.2.2.2.2.2.2.2.1 ≤ 6 ∧ ((u.1 = p0 ∧ u.2.1 = dr ∧ u.2.2.1 = to_ ∧ u.2.2.2.1 = ki ∧ u.2.2.2.2.2.2.2.2.2.2.2.2.2.1 = mo ∧ u.2.2.2.2.2.2.2.2.2.2.2.2.2.2.1 = f ∧ u.2.2.2.2.2.2.2.2.2.2.2.2.2.2.2.1 = rl ∧ u.2.2.2.2.2.2.2.2.2.2.2.2.2.2.2.2.1 = hd ∧ u.2.2.2.2.2.2.2.2.2.2.2.2.2.2.2.2.2.1 = th ∧ u.2.2.2.2.2.2.2.2.2.2.2.2.2.2.2.2.2.2 = co ∧ ¬ u.2.2.2.2.2.1 = 0 ∧ r = u.2.2.2.2.2.1 - 10) ∨ (u.1 = dr ∧ u.2.1 = p0 ∧ u.2.2.1 = 0 ∧ u.2.2.2.1 = 0 ∧ u.2.2.2.2.2.2.2.2.2.2.2.2.2.1 = 0 ∧ u.2.2.2.2.2.2.2.2.2.2.2.2.2.2.2.2.2.1 = 0 ∧ u.2.2.2.2.2.2.2.2.2.2.2.2.2.2.2.2.2.2 = flF (fun _ => 0) co 36 ∧ u.2.2.2.2.2.2.2.2.2.2.2.2.2.2.1 = beginF u.2.2.2.2.2.2.2.2.2.1 u.2.2.2.2.2.2.2.2.2.2.2.1 u.2.2.2.2.2.2.2.2.1 f ∧ u.2.2.2.2.2.1 = 0 ∧ r = nI u.2.2.2.2.2.2.2.2.1)) ∧ u.2.2.2.2.2.1 = faC (txP T n wl6 bd6 fl6 61 0 0 0).1 ∧ u.2.2.2.2.2.2.1 = faP (txP T n wl6 bd6 fl6 61 0 0 0).1 ∧ u.2.2.2.2.2.2.2.2.1 = fdW (txP T n wl6 bd6 fl6 61 0 0 0).2 0 ∧ u.2.2.2.2.2.2.2.2.2.1 = fdD (txP T n wl6 bd6 fl6 61 0 0 0).2 (flF unF e0_ 24) ∧ u.2.2.2.2.2.2.2.2.2.2.1 = fdN (txP T n wl6 bd6 fl6 61 0 0 0).2 (flF nrF e1_ 10) ∧ u.2.2.2.2.2.2.2.2.2.2.2.1 = fdT (txP T n wl6 bd6 fl6 61 0 0 0).2 0 e2_ ∧ u.2.2.2.2.2.2.2.2.2.2.2.2.1 = fdM (txP T n wl6 bd6 fl6 61 0 0 0).2 0 e3_) (fun u t => he_post g A ((fun (u : Nat × Nat × Int32 × Int32 × Nat × Int32 × Int32 × (Nat → Int32) × Nat × (Nat → Int32) × (Nat → Int32) × (Nat → Int32) × (Nat → Int32) × Int32 × (Nat → Int32) × Int64 × Int64 × Int32 × (Nat → Int32)) => [(oX10 x0 y0 0 z0 u.1 u.2.1 pa u.2.2.1 s0 im u.2.2.2.1 tr v0 rf), (oX6 p0 p1 p2 p3 p4 (nI w)), (aI g p1 24 sd), (aI g p2 10 fn), (aI g p3 6 st), (aI g p4 6 me), (oX6 dr d1 d2 d3 d4 (nI u.2.2.2.2.2.2.2.2.1)), (aI g d1 24 u.2.2.2.2.2.2.2.2.2.1), (aI g d2 10 u.2.2.2.2.2.2.2.2.2.2.1), (aI g d3 6 u.2.2.2.2.2.2.2.2.2.2.2.1), (aI g d4 6 u.2.2.2.2.2.2.2.2.2.2.2.2.1), (oX7 z0 y0 (nI n) (nI u.2.2.2.2.1) u.2.2.2.2.2.1 u.2.2.2.2.2.2.1 z1), (aB g y0 500 tp), (aI g z1 3 u.2.2.2.2.2.2.2.1), (oX8 s0 h0 a0 b0 e0), (oX4 h0 q0 q1 u.2.2.2.2.2.2.2.2.2.2.2.2.2.1), (aI g q0 24 u.2.2.2.2.2.2.2.2.2.2.2.2.2.2.1), (oX2 b0 b1 b2 x y u.2.2.2.2.2.2.2.2.2.2.2.2.2.2.2.1 u.2.2.2.2.2.2.2.2.2.2.2.2.2.2.2.2.1 u.2.2.2.2.2.2.2.2.2.2.2.2.2.2.2.2.2.1), (oX3 e0 e1 e2), (aI g e1 36 u.2.2.2.2.2.2.2.2.2.2.2.2.2.2.2.2.2.2)]) u) t) A) (by decide) rfl (Nat.le_of_ble_eq_true rfl) ?_
  intro p e s m args below meth c A ls H locs Q hQ hB
  obtain ⟨hx, hb, hr, hml, hown, hts, hlk, hin, hP, hK, hD, hS, hA, hE, hl⟩ := hB
  have hl : lv_has ls 4 [(0, .ref x0), (1, .int (nI n))] := hl
  have f73 := hts (.fieldLink RX10 73 "HiredEnemy" "taped" "I") (iwoX10_siege (k := 0) rfl)
  have inX10 : ∀ w ∈ wsX100, w ∈ wsX10_siege := innX10_siege_X10
  have f27 := hts (.fieldLink RX10 27 "HiredEnemy" "draft" "LHiredEnemy$Plan;") (iwoX10_siege (k := 1) rfl)
  have f16 := hts (.fieldLink RX10 16 "HiredEnemy" "reader" "LHiredEnemy$Reader;") (iwoX10_siege (k := 2) rfl)
  have f9 := hts (.fieldLink RX10 9 "HiredEnemy" "tape" "[B") (iwoX10_siege (k := 3) rfl)
  have f23 := hts (.fieldLink RX10 23 "HiredEnemy" "plan" "LHiredEnemy$Plan;") (iwoX10_siege (k := 4) rfl)
  have f92 := hts (.fieldLink RX10 92 "HiredEnemy" "pactsTold" "I") (iwoX10_siege (k := 5) rfl)
  have f95 := hts (.fieldLink RX10 95 "HiredEnemy" "imagesKept" "I") (iwoX10_siege (k := 6) rfl)
  have f39 := hts (.fieldLink RX10 39 "HiredEnemy" "scene" "LHiredEnemy$Scene;") (iwoX10_siege (k := 7) rfl)
  have f99 := hts (.fieldLink RX10 99 "HiredEnemy$Plan" "walls" "I") (iwoX10_siege (k := 8) rfl)
  have inX6 : ∀ w ∈ wsX60, w ∈ wsX10_siege := innX10_siege_X6
  refine lv_aload_n hx hb dX10_siege_0 rfl (lv_at hl 0 rfl) ?_
  refine lv_iload_n hx hb dX10_siege_1 rfl (lv_at hl 1 rfl) ?_
  refine lv_if_lt (tgt := 17) hx hb dX10_siege_2 (by decide) (fun c_1 => ?_) (fun c_1 => ?_)
  · exact absurd c_1 (nI_pos (by omega))
  · refine lv_iload_n hx hb dX10_siege_5 rfl (lv_at hl 1 rfl) ?_
    refine lv_aload_n hx hb dX10_siege_6 rfl (lv_at hl 0 rfl) ?_
    refine va_get (v := .int (nI k)) (T := TX10) (N := 13) hx hb hts inX10 hown hK hP 0 rfl rfl 1 (by decide) f73 (fun _ h9 => h9) rfl dX10_siege_7 ?_
    refine lv_icmp_gt (tgt := 17) hx hb dX10_siege_10 (by decide) (fun c_2 => ?_) (fun c_2 => ?_)
    · exact absurd c_2 (fun h9 => absurd ((nI_ltI (by omega) (by omega)).mp h9) (by omega))
    · refine lv_iconst (v := 1) hx hb dX10_siege_13 (by decide) ?_
      refine lv_goto (tgt := 18) hx hb dX10_siege_14 (by decide) ?_
      refine he_cv (wc := []) (wr := [(oX10 x0 y0 (nI k) z0 p0 dr pa to_ s0 im ki tr v0 rf), (oX6 p0 p1 p2 p3 p4 (nI w)), (aI g p1 24 sd), (aI g p2 10 fn), (aI g p3 6 st), (aI g p4 6 me), (oX6 dr d1 d2 d3 d4 dw), (aI g d1 24 e0_), (aI g d2 10 e1_), (aI g d3 6 e2_), (aI g d4 6 e3_), (oX7 z0 y1 n1 at1 fa pl z1), (aB g y0 500 tp), (aI g z1 3 nu), (oX8 s0 h0 a0 b0 e0), (oX4 h0 q0 q1 mo), (aI g q0 24 f), (oX2 b0 b1 b2 x y rl hd th), (oX3 e0 e1 e2), (aI g e1 36 co)]) (va_runV (As := [.int 1]) (rest := []) ⟨hx, hb, hml, hown, hts⟩ (c_X10_demand1 l g x0 H.size) (cwV 1 hts gX10_siege_X10_demand rfl rfl rfl (by decide +kernel) ⟨Nat.le_of_ble_eq_true rfl, Nat.le_of_ble_eq_true rfl⟩) (he_preV (wc := []) hK hP hD hS hA hE [] rfl rfl 0 rfl rfl) rfl rfl hl.1 rfl (lv_room (Nat.le_of_ble_eq_true rfl)) dX10_siege_18 ⟨(Nat.le_of_ble_eq_true rfl), (Nat.le_of_ble_eq_true rfl)⟩) hP hD hS hA [] [0, 1, 2, 3, 4, 5, 6, 7, 8, 9, 10, 11, 12, 13, 14, 15, 16, 17, 18, 19] rfl rfl rfl (by decide) (fun u_4 H locs h_5 hP hD hS => ?_)
      have hP : va_P g.1 vwCl [(oX10 x0 y0 (nI k) z0 p0 dr pa to_ s0 im ki tr v0 rf), (oX6 p0 p1 p2 p3 p4 (nI w)), (aI g p1 24 sd), (aI g p2 10 fn), (aI g p3 6 st), (aI g p4 6 me), (oX6 dr d1 d2 d3 d4 dw), (aI g d1 24 e0_), (aI g d2 10 e1_), (aI g d3 6 e2_), (aI g d4 6 e3_), (oX7 z0 y1 n1 at1 fa pl z1), (aB g y0 500 tp), (aI g z1 3 nu), (oX8 s0 h0 a0 b0 e0), (oX4 h0 q0 q1 mo), (aI g q0 24 f), (oX2 b0 b1 b2 x y rl hd th), (oX3 e0 e1 e2), (aI g e1 36 co)] H := hP
      have hD : va_D A [(oX10 x0 y0 (nI k) z0 p0 dr pa to_ s0 im ki tr v0 rf), (oX6 p0 p1 p2 p3 p4 (nI w)), (aI g p1 24 sd), (aI g p2 10 fn), (aI g p3 6 st), (aI g p4 6 me), (oX6 dr d1 d2 d3 d4 dw), (aI g d1 24 e0_), (aI g d2 10 e1_), (aI g d3 6 e2_), (aI g d4 6 e3_), (oX7 z0 y1 n1 at1 fa pl z1), (aB g y0 500 tp), (aI g z1 3 nu), (oX8 s0 h0 a0 b0 e0), (oX4 h0 q0 q1 mo), (aI g q0 24 f), (oX2 b0 b1 b2 x y rl hd th), (oX3 e0 e1 e2), (aI g e1 36 co)] := hD
      refine lv_aload_n hx hb dX10_siege_21 rfl (lv_at hl 0 rfl) ?_
      refine lv_iconst (v := 0) hx hb dX10_siege_22 (by decide) ?_
      refine va_put (v := .int 0) (ty := .int) (T := TX10) (N := 13) hx hb hts inX10 tyX10 tyX10_ok nmX10 hown hK hP hD hS 0 rfl rfl 1 (by decide) f73 (fun _ h9 => h9) rfl (by decide +kernel) rfl rfl (Nat.le_of_ble_eq_true rfl) dX10_siege_23 (fun H locs hP hD hS => ?_)
      have hP : va_P g.1 vwCl [(oX10 x0 y0 0 z0 p0 dr pa to_ s0 im ki tr v0 rf), (oX6 p0 p1 p2 p3 p4 (nI w)), (aI g p1 24 sd), (aI g p2 10 fn), (aI g p3 6 st), (aI g p4 6 me), (oX6 dr d1 d2 d3 d4 dw), (aI g d1 24 e0_), (aI g d2 10 e1_), (aI g d3 6 e2_), (aI g d4 6 e3_), (oX7 z0 y1 n1 at1 fa pl z1), (aB g y0 500 tp), (aI g z1 3 nu), (oX8 s0 h0 a0 b0 e0), (oX4 h0 q0 q1 mo), (aI g q0 24 f), (oX2 b0 b1 b2 x y rl hd th), (oX3 e0 e1 e2), (aI g e1 36 co)] H := hP
      have hD : va_D A [(oX10 x0 y0 0 z0 p0 dr pa to_ s0 im ki tr v0 rf), (oX6 p0 p1 p2 p3 p4 (nI w)), (aI g p1 24 sd), (aI g p2 10 fn), (aI g p3 6 st), (aI g p4 6 me), (oX6 dr d1 d2 d3 d4 dw), (aI g d1 24 e0_), (aI g d2 10 e1_), (aI g d3 6 e2_), (aI g d4 6 e3_), (oX7 z0 y1 n1 at1 fa pl z1), (aB g y0 500 tp), (aI g z1 3 nu), (oX8 s0 h0 a0 b0 e0), (oX4 h0 q0 q1 mo), (aI g q0 24 f), (oX2 b0 b1 b2 x y rl hd th), (oX3 e0 e1 e2), (aI g e1 36 co)] := hD
      refine lv_aload_n hx hb dX10_siege_26 rfl (lv_at hl 0 rfl) ?_
      refine va_get (v := .ref dr) (T := TX10) (N := 13) hx hb hts inX10 hown hK hP 0 rfl rfl 4 (by decide) f27 (fun _ h9 => h9) rfl dX10_siege_27 ?_
      refine he_cv (wc := [(oX6 dr d1 d2 d3 d4 dw), (aI g d1 24 e0_), (aI g d2 10 e1_)]) (wr := [(oX10 x0 y0 0 z0 p0 dr pa to_ s0 im ki tr v0 rf), (oX6 p0 p1 p2 p3 p4 (nI w)), (aI g p1 24 sd), (aI g p2 10 fn), (aI g p3 6 st), (aI g p4 6 me), (aI g d3 6 e2_), (aI g d4 6 e3_), (oX7 z0 y1 n1 at1 fa pl z1), (aB g y0 500 tp), (aI g z1 3 nu), (oX8 s0 h0 a0 b0 e0), (oX4 h0 q0 q1 mo), (aI g q0 24 f), (oX2 b0 b1 b2 x y rl hd th), (oX3 e0 e1 e2), (aI g e1 36 co)]) (va_runV (As := []) (rest := []) ⟨hx, hb, hml, hown, hts⟩ (c_X6_clear l g dr d1 d2 d3 d4 dw e0_ e1_ H.size) (cwV 0 hts gX10_siege_X6_clear rfl rfl rfl (by decide +kernel) ⟨Nat.le_of_ble_eq_true rfl, Nat.le_of_ble_eq_true rfl⟩) (he_preV (wc := [(oX6 dr d1 d2 d3 d4 dw), (aI g d1 24 e0_), (aI g d2 10 e1_)]) hK hP hD hS hA hE [6, 7, 8] rfl rfl 6 rfl rfl) rfl rfl hl.1 rfl (lv_room (Nat.le_of_ble_eq_true rfl)) dX10_siege_30 ⟨(Nat.le_of_ble_eq_true rfl), (Nat.le_of_ble_eq_true rfl)⟩) hP hD hS hA [6, 7, 8] [0, 1, 2, 3, 4, 5, 9, 10, 11, 12, 13, 14, 15, 16, 17, 18, 19] rfl rfl rfl (by decide) (fun u_7 H locs h_8 hP hD hS => ?_)
      have hP : va_P g.1 vwCl [(oX10 x0 y0 0 z0 p0 dr pa to_ s0 im ki tr v0 rf), (oX6 p0 p1 p2 p3 p4 (nI w)), (aI g p1 24 sd), (aI g p2 10 fn), (aI g p3 6 st), (aI g p4 6 me), (aI g d3 6 e2_), (aI g d4 6 e3_), (oX7 z0 y1 n1 at1 fa pl z1), (aB g y0 500 tp), (aI g z1 3 nu), (oX8 s0 h0 a0 b0 e0), (oX4 h0 q0 q1 mo), (aI g q0 24 f), (oX2 b0 b1 b2 x y rl hd th), (oX3 e0 e1 e2), (aI g e1 36 co), (oX6 dr d1 d2 d3 d4 0), (aI g d1 24 (flF unF e0_ 24)), (aI g d2 10 (flF nrF e1_ 10))] H := hP
      have hD : va_D A [(oX10 x0 y0 0 z0 p0 dr pa to_ s0 im ki tr v0 rf), (oX6 p0 p1 p2 p3 p4 (nI w)), (aI g p1 24 sd), (aI g p2 10 fn), (aI g p3 6 st), (aI g p4 6 me), (aI g d3 6 e2_), (aI g d4 6 e3_), (oX7 z0 y1 n1 at1 fa pl z1), (aB g y0 500 tp), (aI g z1 3 nu), (oX8 s0 h0 a0 b0 e0), (oX4 h0 q0 q1 mo), (aI g q0 24 f), (oX2 b0 b1 b2 x y rl hd th), (oX3 e0 e1 e2), (aI g e1 36 co), (oX6 dr d1 d2 d3 d4 0), (aI g d1 24 (flF unF e0_ 24)), (aI g d2 10 (flF nrF e1_ 10))] := hD
      refine lv_aload_n hx hb dX10_siege_33 rfl (lv_at hl 0 rfl) ?_
      refine va_get (v := .ref z0) (T := TX10) (N := 13) hx hb hts inX10 hown hK hP 0 rfl rfl 2 (by decide) f16 (fun _ h9 => h9) rfl dX10_siege_34 ?_
      refine lv_aload_n hx hb dX10_siege_37 rfl (lv_at hl 0 rfl) ?_
      refine va_get (v := .ref y0) (T := TX10) (N := 13) hx hb hts inX10 hown hK hP 0 rfl rfl 0 (by decide) f9 (fun _ h9 => h9) rfl dX10_siege_38 ?_
      refine lv_iload_n hx hb dX10_siege_41 rfl (lv_at hl 1 rfl) ?_
      refine lv_aload_n hx hb dX10_siege_42 rfl (lv_at hl 0 rfl) ?_
      refine va_get (v := .ref dr) (T := TX10) (N := 13) hx hb hts inX10 hown hK hP 0 rfl rfl 4 (by decide) f27 (fun _ h9 => h9) rfl dX10_siege_43 ?_
      refine he_ci (wc := [(oX7 z0 y1 n1 at1 fa pl z1), (aB g y0 500 tp), (aI g z1 3 nu), (oX6 dr d1 d2 d3 d4 0), (aI g d1 24 (flF unF e0_ 24)), (aI g d2 10 (flF nrF e1_ 10)), (aI g d3 6 e2_), (aI g d4 6 e3_)]) (wr := [(oX10 x0 y0 0 z0 p0 dr pa to_ s0 im ki tr v0 rf), (oX6 p0 p1 p2 p3 p4 (nI w)), (aI g p1 24 sd), (aI g p2 10 fn), (aI g p3 6 st), (aI g p4 6 me), (oX8 s0 h0 a0 b0 e0), (oX4 h0 q0 q1 mo), (aI g q0 24 f), (oX2 b0 b1 b2 x y rl hd th), (oX3 e0 e1 e2), (aI g e1 36 co)]) (va_runV (As := [.ref y0, .int (nI n), .ref dr]) (rest := []) ⟨hx, hb, hml, hown, hts⟩ (p_X7_read6 l g z0 z1 y0 n y1 n1 at1 fa pl tp T nu dr d1 d2 d3 d4 0 (flF unF e0_ 24) (flF nrF e1_ 10) e2_ e3_ (by omega) (by decide) (by first | assumption | decide | omega) H.size) (cwV 3 hts gX10_siege_X7_read rfl rfl rfl (by decide +kernel) ⟨Nat.le_of_ble_eq_true rfl, Nat.le_of_ble_eq_true rfl⟩) (he_preV (wc := [(oX7 z0 y1 n1 at1 fa pl z1), (aB g y0 500 tp), (aI g z1 3 nu), (oX6 dr d1 d2 d3 d4 0), (aI g d1 24 (flF unF e0_ 24)), (aI g d2 10 (flF nrF e1_ 10)), (aI g d3 6 e2_), (aI g d4 6 e3_)]) hK hP hD hS hA hE [8, 9, 10, 17, 18, 19, 6, 7] rfl rfl 8 rfl rfl) rfl rfl hl.1 rfl (lv_room (Nat.le_of_ble_eq_true rfl)) dX10_siege_46 ⟨(Nat.le_of_ble_eq_true rfl), (Nat.le_of_ble_eq_true rfl)⟩) hP hD hS hA [8, 9, 10, 17, 18, 19, 6, 7] [0, 1, 2, 3, 4, 5, 11, 12, 13, 14, 15, 16] rfl rfl rfl (by decide) (fun r_9 u_10 H locs h_11 hP hD hS => ?_)
      obtain ⟨k2_12, fb_13, pb_14, nv_15, uw_16, ud_17, un_18, ut_19, um_20⟩ := u_10
      try dsimp only at h_11
      obtain ⟨hf_21, hf_22, hf_23, hf_24, hf_25, hf_26, hf_27, hf_28, hf_29⟩ := h_11
      have hP : va_P g.1 vwCl [(oX10 x0 y0 0 z0 p0 dr pa to_ s0 im ki tr v0 rf), (oX6 p0 p1 p2 p3 p4 (nI w)), (aI g p1 24 sd), (aI g p2 10 fn), (aI g p3 6 st), (aI g p4 6 me), (oX8 s0 h0 a0 b0 e0), (oX4 h0 q0 q1 mo), (aI g q0 24 f), (oX2 b0 b1 b2 x y rl hd th), (oX3 e0 e1 e2), (aI g e1 36 co), (oX7 z0 y0 (nI n) (nI k2_12) fb_13 pb_14 z1), (aB g y0 500 tp), (aI g z1 3 nv_15), (oX6 dr d1 d2 d3 d4 (nI uw_16)), (aI g d1 24 ud_17), (aI g d2 10 un_18), (aI g d3 6 ut_19), (aI g d4 6 um_20)] H := hP
      have hD : va_D A [(oX10 x0 y0 0 z0 p0 dr pa to_ s0 im ki tr v0 rf), (oX6 p0 p1 p2 p3 p4 (nI w)), (aI g p1 24 sd), (aI g p2 10 fn), (aI g p3 6 st), (aI g p4 6 me), (oX8 s0 h0 a0 b0 e0), (oX4 h0 q0 q1 mo), (aI g q0 24 f), (oX2 b0 b1 b2 x y rl hd th), (oX3 e0 e1 e2), (aI g e1 36 co), (oX7 z0 y0 (nI n) (nI k2_12) fb_13 pb_14 z1), (aB g y0 500 tp), (aI g z1 3 nv_15), (oX6 dr d1 d2 d3 d4 (nI uw_16)), (aI g d1 24 ud_17), (aI g d2 10 un_18), (aI g d3 6 ut_19), (aI g d4 6 um_20)] := hD
      refine lv_istore_n (lv' := [(2, .int r_9), (0, .ref x0), (1, .int (nI n))]) hx hb dX10_siege_49 rfl hl (by decide) rfl (fun ls hl => ?_)
      refine lv_iload_n hx hb dX10_siege_50 rfl (lv_at hl 0 rfl) ?_
      refine lv_if_eq (tgt := 59) hx hb dX10_siege_51 (by decide) (fun c_30 => ?_) (fun c_30 => ?_)
      · refine lv_aload_n hx hb dX10_siege_59 rfl (lv_at hl 1 rfl) ?_
        refine va_get (v := .ref p0) (T := TX10) (N := 13) hx hb hts inX10 hown hK hP 0 rfl rfl 3 (by decide) f23 (fun _ h9 => h9) rfl dX10_siege_60 ?_
        refine lv_astore_n (lv' := [(3, .ref p0), (2, .int r_9), (0, .ref x0), (1, .int (nI n))]) hx hb dX10_siege_63 rfl hl (by decide) rfl (fun ls hl => ?_)
        refine lv_aload_n hx hb dX10_siege_64 rfl (lv_at hl 2 rfl) ?_
        refine lv_aload_n hx hb dX10_siege_65 rfl (lv_at hl 2 rfl) ?_
        refine va_get (v := .ref dr) (T := TX10) (N := 13) hx hb hts inX10 hown hK hP 0 rfl rfl 4 (by decide) f27 (fun _ h9 => h9) rfl dX10_siege_66 ?_
        refine va_put (v := .ref dr) (ty := tyX10 3) (T := TX10) (N := 13) hx hb hts inX10 tyX10 tyX10_ok nmX10 hown hK hP hD hS 0 rfl rfl 3 (by decide) f23 (fun _ h9 => h9) rfl (by decide +kernel) rfl rfl (Nat.le_of_ble_eq_true rfl) dX10_siege_69 (fun H locs hP hD hS => ?_)
        have hP : va_P g.1 vwCl [(oX10 x0 y0 0 z0 dr dr pa to_ s0 im ki tr v0 rf), (oX6 p0 p1 p2 p3 p4 (nI w)), (aI g p1 24 sd), (aI g p2 10 fn), (aI g p3 6 st), (aI g p4 6 me), (oX8 s0 h0 a0 b0 e0), (oX4 h0 q0 q1 mo), (aI g q0 24 f), (oX2 b0 b1 b2 x y rl hd th), (oX3 e0 e1 e2), (aI g e1 36 co), (oX7 z0 y0 (nI n) (nI k2_12) fb_13 pb_14 z1), (aB g y0 500 tp), (aI g z1 3 nv_15), (oX6 dr d1 d2 d3 d4 (nI uw_16)), (aI g d1 24 ud_17), (aI g d2 10 un_18), (aI g d3 6 ut_19), (aI g d4 6 um_20)] H := hP
        have hD : va_D A [(oX10 x0 y0 0 z0 dr dr pa to_ s0 im ki tr v0 rf), (oX6 p0 p1 p2 p3 p4 (nI w)), (aI g p1 24 sd), (aI g p2 10 fn), (aI g p3 6 st), (aI g p4 6 me), (oX8 s0 h0 a0 b0 e0), (oX4 h0 q0 q1 mo), (aI g q0 24 f), (oX2 b0 b1 b2 x y rl hd th), (oX3 e0 e1 e2), (aI g e1 36 co), (oX7 z0 y0 (nI n) (nI k2_12) fb_13 pb_14 z1), (aB g y0 500 tp), (aI g z1 3 nv_15), (oX6 dr d1 d2 d3 d4 (nI uw_16)), (aI g d1 24 ud_17), (aI g d2 10 un_18), (aI g d3 6 ut_19), (aI g d4 6 um_20)] := hD
        refine lv_aload_n hx hb dX10_siege_72 rfl (lv_at hl 2 rfl) ?_
        refine lv_aload_n hx hb dX10_siege_73 rfl (lv_at hl 0 rfl) ?_
        refine va_put (v := .ref p0) (ty := tyX10 4) (T := TX10) (N := 13) hx hb hts inX10 tyX10 tyX10_ok nmX10 hown hK hP hD hS 0 rfl rfl 4 (by decide) f27 (fun _ h9 => h9) rfl (by decide +kernel) rfl rfl (Nat.le_of_ble_eq_true rfl) dX10_siege_74 (fun H locs hP hD hS => ?_)
        have hP : va_P g.1 vwCl [(oX10 x0 y0 0 z0 dr p0 pa to_ s0 im ki tr v0 rf), (oX6 p0 p1 p2 p3 p4 (nI w)), (aI g p1 24 sd), (aI g p2 10 fn), (aI g p3 6 st), (aI g p4 6 me), (oX8 s0 h0 a0 b0 e0), (oX4 h0 q0 q1 mo), (aI g q0 24 f), (oX2 b0 b1 b2 x y rl hd th), (oX3 e0 e1 e2), (aI g e1 36 co), (oX7 z0 y0 (nI n) (nI k2_12) fb_13 pb_14 z1), (aB g y0 500 tp), (aI g z1 3 nv_15), (oX6 dr d1 d2 d3 d4 (nI uw_16)), (aI g d1 24 ud_17), (aI g d2 10 un_18), (aI g d3 6 ut_19), (aI g d4 6 um_20)] H := hP
        have hD : va_D A [(oX10 x0 y0 0 z0 dr p0 pa to_ s0 im ki tr v0 rf), (oX6 p0 p1 p2 p3 p4 (nI w)), (aI g p1 24 sd), (aI g p2 10 fn), (aI g p3 6 st), (aI g p4 6 me), (oX8 s0 h0 a0 b0 e0), (oX4 h0 q0 q1 mo), (aI g q0 24 f), (oX2 b0 b1 b2 x y rl hd th), (oX3 e0 e1 e2), (aI g e1 36 co), (oX7 z0 y0 (nI n) (nI k2_12) fb_13 pb_14 z1), (aB g y0 500 tp), (aI g z1 3 nv_15), (oX6 dr d1 d2 d3 d4 (nI uw_16)), (aI g d1 24 ud_17), (aI g d2 10 un_18), (aI g d3 6 ut_19), (aI g d4 6 um_20)] := hD
        refine lv_aload_n hx hb dX10_siege_77 rfl (lv_at hl 2 rfl) ?_
        refine lv_iconst (v := 0) hx hb dX10_siege_78 (by decide) ?_
        refine va_put (v := .int 0) (ty := .int) (T := TX10) (N := 13) hx hb hts inX10 tyX10 tyX10_ok nmX10 hown hK hP hD hS 0 rfl rfl 6 (by decide) f92 (fun _ h9 => h9) rfl (by decide +kernel) rfl rfl (Nat.le_of_ble_eq_true rfl) dX10_siege_79 (fun H locs hP hD hS => ?_)
        have hP : va_P g.1 vwCl [(oX10 x0 y0 0 z0 dr p0 pa 0 s0 im ki tr v0 rf), (oX6 p0 p1 p2 p3 p4 (nI w)), (aI g p1 24 sd), (aI g p2 10 fn), (aI g p3 6 st), (aI g p4 6 me), (oX8 s0 h0 a0 b0 e0), (oX4 h0 q0 q1 mo), (aI g q0 24 f), (oX2 b0 b1 b2 x y rl hd th), (oX3 e0 e1 e2), (aI g e1 36 co), (oX7 z0 y0 (nI n) (nI k2_12) fb_13 pb_14 z1), (aB g y0 500 tp), (aI g z1 3 nv_15), (oX6 dr d1 d2 d3 d4 (nI uw_16)), (aI g d1 24 ud_17), (aI g d2 10 un_18), (aI g d3 6 ut_19), (aI g d4 6 um_20)] H := hP
        have hD : va_D A [(oX10 x0 y0 0 z0 dr p0 pa 0 s0 im ki tr v0 rf), (oX6 p0 p1 p2 p3 p4 (nI w)), (aI g p1 24 sd), (aI g p2 10 fn), (aI g p3 6 st), (aI g p4 6 me), (oX8 s0 h0 a0 b0 e0), (oX4 h0 q0 q1 mo), (aI g q0 24 f), (oX2 b0 b1 b2 x y rl hd th), (oX3 e0 e1 e2), (aI g e1 36 co), (oX7 z0 y0 (nI n) (nI k2_12) fb_13 pb_14 z1), (aB g y0 500 tp), (aI g z1 3 nv_15), (oX6 dr d1 d2 d3 d4 (nI uw_16)), (aI g d1 24 ud_17), (aI g d2 10 un_18), (aI g d3 6 ut_19), (aI g d4 6 um_20)] := hD
        refine lv_aload_n hx hb dX10_siege_82 rfl (lv_at hl 2 rfl) ?_
        refine lv_iconst (v := 0) hx hb dX10_siege_83 (by decide) ?_
        refine va_put (v := .int 0) (ty := .int) (T := TX10) (N := 13) hx hb hts inX10 tyX10 tyX10_ok nmX10 hown hK hP hD hS 0 rfl rfl 9 (by decide) f95 (fun _ h9 => h9) rfl (by decide +kernel) rfl rfl (Nat.le_of_ble_eq_true rfl) dX10_siege_84 (fun H locs hP hD hS => ?_)
        have hP : va_P g.1 vwCl [(oX10 x0 y0 0 z0 dr p0 pa 0 s0 im 0 tr v0 rf), (oX6 p0 p1 p2 p3 p4 (nI w)), (aI g p1 24 sd), (aI g p2 10 fn), (aI g p3 6 st), (aI g p4 6 me), (oX8 s0 h0 a0 b0 e0), (oX4 h0 q0 q1 mo), (aI g q0 24 f), (oX2 b0 b1 b2 x y rl hd th), (oX3 e0 e1 e2), (aI g e1 36 co), (oX7 z0 y0 (nI n) (nI k2_12) fb_13 pb_14 z1), (aB g y0 500 tp), (aI g z1 3 nv_15), (oX6 dr d1 d2 d3 d4 (nI uw_16)), (aI g d1 24 ud_17), (aI g d2 10 un_18), (aI g d3 6 ut_19), (aI g d4 6 um_20)] H := hP
        have hD : va_D A [(oX10 x0 y0 0 z0 dr p0 pa 0 s0 im 0 tr v0 rf), (oX6 p0 p1 p2 p3 p4 (nI w)), (aI g p1 24 sd), (aI g p2 10 fn), (aI g p3 6 st), (aI g p4 6 me), (oX8 s0 h0 a0 b0 e0), (oX4 h0 q0 q1 mo), (aI g q0 24 f), (oX2 b0 b1 b2 x y rl hd th), (oX3 e0 e1 e2), (aI g e1 36 co), (oX7 z0 y0 (nI n) (nI k2_12) fb_13 pb_14 z1), (aB g y0 500 tp), (aI g z1 3 nv_15), (oX6 dr d1 d2 d3 d4 (nI uw_16)), (aI g d1 24 ud_17), (aI g d2 10 un_18), (aI g d3 6 ut_19), (aI g d4 6 um_20)] := hD
        refine lv_aload_n hx hb dX10_siege_87 rfl (lv_at hl 2 rfl) ?_
        refine va_get (v := .ref s0) (T := TX10) (N := 13) hx hb hts inX10 hown hK hP 0 rfl rfl 7 (by decide) f39 (fun _ h9 => h9) rfl dX10_siege_88 ?_
        refine lv_aload_n hx hb dX10_siege_91 rfl (lv_at hl 2 rfl) ?_
        refine va_get (v := .ref dr) (T := TX10) (N := 13) hx hb hts inX10 hown hK hP 0 rfl rfl 3 (by decide) f23 (fun _ h9 => h9) rfl dX10_siege_92 ?_
        refine he_cv (wc := [(oX8 s0 h0 a0 b0 e0), (oX4 h0 q0 q1 mo), (aI g q0 24 f), (oX2 b0 b1 b2 x y rl hd th), (oX3 e0 e1 e2), (aI g e1 36 co), (oX6 dr d1 d2 d3 d4 (nI uw_16)), (aI g d1 24 ud_17), (aI g d3 6 ut_19)]) (wr := [(oX10 x0 y0 0 z0 dr p0 pa 0 s0 im 0 tr v0 rf), (oX6 p0 p1 p2 p3 p4 (nI w)), (aI g p1 24 sd), (aI g p2 10 fn), (aI g p3 6 st), (aI g p4 6 me), (oX7 z0 y0 (nI n) (nI k2_12) fb_13 pb_14 z1), (aB g y0 500 tp), (aI g z1 3 nv_15), (aI g d2 10 un_18), (aI g d4 6 um_20)]) (va_runV (As := [.ref dr]) (rest := []) ⟨hx, hb, hml, hown, hts⟩ (c_X8_begin l g s0 a0 h0 q0 q1 mo f b0 b1 b2 x y rl hd th e0 e1 e2 co dr d1 d2 d3 d4 uw_16 ud_17 ut_19 (by first | assumption | decide | omega) H.size) (cwV 1 hts gX10_siege_X8_begin rfl rfl rfl (by decide +kernel) ⟨Nat.le_of_ble_eq_true rfl, Nat.le_of_ble_eq_true rfl⟩) (he_preV (wc := [(oX8 s0 h0 a0 b0 e0), (oX4 h0 q0 q1 mo), (aI g q0 24 f), (oX2 b0 b1 b2 x y rl hd th), (oX3 e0 e1 e2), (aI g e1 36 co), (oX6 dr d1 d2 d3 d4 (nI uw_16)), (aI g d1 24 ud_17), (aI g d3 6 ut_19)]) hK hP hD hS hA hE [6, 7, 8, 9, 10, 11, 15, 16, 18] rfl rfl 6 rfl rfl) rfl rfl hl.1 rfl (lv_room (Nat.le_of_ble_eq_true rfl)) dX10_siege_95 ⟨(Nat.le_of_ble_eq_true rfl), (Nat.le_of_ble_eq_true rfl)⟩) hP hD hS hA [6, 7, 8, 9, 10, 11, 15, 16, 18] [0, 1, 2, 3, 4, 5, 12, 13, 14, 17, 19] rfl rfl rfl (by decide) (fun u_32 H locs h_33 hP hD hS => ?_)
        have hP : va_P g.1 vwCl [(oX10 x0 y0 0 z0 dr p0 pa 0 s0 im 0 tr v0 rf), (oX6 p0 p1 p2 p3 p4 (nI w)), (aI g p1 24 sd), (aI g p2 10 fn), (aI g p3 6 st), (aI g p4 6 me), (oX7 z0 y0 (nI n) (nI k2_12) fb_13 pb_14 z1), (aB g y0 500 tp), (aI g z1 3 nv_15), (aI g d2 10 un_18), (aI g d4 6 um_20), (oX8 s0 h0 a0 b0 e0), (oX4 h0 q0 q1 0), (aI g q0 24 (beginF ud_17 ut_19 uw_16 f)), (oX2 b0 b1 b2 x y (Int32.toInt64 x) (Int32.toInt64 y) 0), (oX3 e0 e1 e2), (aI g e1 36 (flF (fun _ => 0) co 36)), (oX6 dr d1 d2 d3 d4 (nI uw_16)), (aI g d1 24 ud_17), (aI g d3 6 ut_19)] H := hP
        have hD : va_D A [(oX10 x0 y0 0 z0 dr p0 pa 0 s0 im 0 tr v0 rf), (oX6 p0 p1 p2 p3 p4 (nI w)), (aI g p1 24 sd), (aI g p2 10 fn), (aI g p3 6 st), (aI g p4 6 me), (oX7 z0 y0 (nI n) (nI k2_12) fb_13 pb_14 z1), (aB g y0 500 tp), (aI g z1 3 nv_15), (aI g d2 10 un_18), (aI g d4 6 um_20), (oX8 s0 h0 a0 b0 e0), (oX4 h0 q0 q1 0), (aI g q0 24 (beginF ud_17 ut_19 uw_16 f)), (oX2 b0 b1 b2 x y (Int32.toInt64 x) (Int32.toInt64 y) 0), (oX3 e0 e1 e2), (aI g e1 36 (flF (fun _ => 0) co 36)), (oX6 dr d1 d2 d3 d4 (nI uw_16)), (aI g d1 24 ud_17), (aI g d3 6 ut_19)] := hD
        refine lv_aload_n hx hb dX10_siege_98 rfl (lv_at hl 2 rfl) ?_
        refine va_get (v := .ref dr) (T := TX10) (N := 13) hx hb hts inX10 hown hK hP 0 rfl rfl 3 (by decide) f23 (fun _ h9 => h9) rfl dX10_siege_99 ?_
        refine va_get (v := .int (nI uw_16)) (T := TX6) (N := 5) hx hb hts inX6 hown hK hP 17 rfl rfl 4 (by decide) f99 (fun _ h9 => h9) rfl dX10_siege_102 ?_
        have hP := hP.sub (ws' := [(oX10 x0 y0 0 z0 dr p0 pa 0 s0 im 0 tr v0 rf), (oX6 p0 p1 p2 p3 p4 (nI w)), (aI g p1 24 sd), (aI g p2 10 fn), (aI g p3 6 st), (aI g p4 6 me), (oX6 dr d1 d2 d3 d4 (nI uw_16)), (aI g d1 24 ud_17), (aI g d2 10 un_18), (aI g d3 6 ut_19), (aI g d4 6 um_20), (oX7 z0 y0 (nI n) (nI k2_12) fb_13 pb_14 z1), (aB g y0 500 tp), (aI g z1 3 nv_15), (oX8 s0 h0 a0 b0 e0), (oX4 h0 q0 q1 0), (aI g q0 24 (beginF ud_17 ut_19 uw_16 f)), (oX2 b0 b1 b2 x y (Int32.toInt64 x) (Int32.toInt64 y) 0), (oX3 e0 e1 e2), (aI g e1 36 (flF (fun _ => 0) co 36))]) [0, 1, 2, 3, 4, 5, 17, 18, 9, 19, 10, 6, 7, 8, 11, 12, 13, 14, 15, 16] rfl
        have hD := hD.sub (ws' := [(oX10 x0 y0 0 z0 dr p0 pa 0 s0 im 0 tr v0 rf), (oX6 p0 p1 p2 p3 p4 (nI w)), (aI g p1 24 sd), (aI g p2 10 fn), (aI g p3 6 st), (aI g p4 6 me), (oX6 dr d1 d2 d3 d4 (nI uw_16)), (aI g d1 24 ud_17), (aI g d2 10 un_18), (aI g d3 6 ut_19), (aI g d4 6 um_20), (oX7 z0 y0 (nI n) (nI k2_12) fb_13 pb_14 z1), (aB g y0 500 tp), (aI g z1 3 nv_15), (oX8 s0 h0 a0 b0 e0), (oX4 h0 q0 q1 0), (aI g q0 24 (beginF ud_17 ut_19 uw_16 f)), (oX2 b0 b1 b2 x y (Int32.toInt64 x) (Int32.toInt64 y) 0), (oX3 e0 e1 e2), (aI g e1 36 (flF (fun _ => 0) co 36))]) [0, 1, 2, 3, 4, 5, 17, 18, 9, 19, 10, 6, 7, 8, 11, 12, 13, 14, 15, 16] (by decide) rfl
        exact he_ri hQ hx hb hr hlk hP hD hS dX10_siege_105 (Nat.le_of_ble_eq_true rfl) (Nat.le_of_ble_eq_true rfl) ((dr, p0, 0, 0, k2_12, fb_13, pb_14, nv_15, uw_16, ud_17, un_18, ut_19, um_20, 0, beginF ud_17 ut_19 uw_16 f, Int32.toInt64 x, Int32.toInt64 y, 0, flF (fun _ => 0) co 36)) (rfl) (⟨by dsimp only; exact hf_29, Or.inr ⟨rfl, rfl, rfl, rfl, rfl, rfl, rfl, rfl, Eq.trans (Eq.symm hf_21) c_30, rfl⟩, hf_22, hf_23, hf_24, hf_25, hf_26, hf_27, hf_28⟩)
      · refine lv_iload_n hx hb dX10_siege_54 rfl (lv_at hl 0 rfl) ?_
        refine lv_bipush (v := 10) hx hb dX10_siege_55 (by decide) ?_
        refine lv_isub hx hb dX10_siege_57 ?_
        have hP := hP.sub (ws' := [(oX10 x0 y0 0 z0 p0 dr pa to_ s0 im ki tr v0 rf), (oX6 p0 p1 p2 p3 p4 (nI w)), (aI g p1 24 sd), (aI g p2 10 fn), (aI g p3 6 st), (aI g p4 6 me), (oX6 dr d1 d2 d3 d4 (nI uw_16)), (aI g d1 24 ud_17), (aI g d2 10 un_18), (aI g d3 6 ut_19), (aI g d4 6 um_20), (oX7 z0 y0 (nI n) (nI k2_12) fb_13 pb_14 z1), (aB g y0 500 tp), (aI g z1 3 nv_15), (oX8 s0 h0 a0 b0 e0), (oX4 h0 q0 q1 mo), (aI g q0 24 f), (oX2 b0 b1 b2 x y rl hd th), (oX3 e0 e1 e2), (aI g e1 36 co)]) [0, 1, 2, 3, 4, 5, 15, 16, 17, 18, 19, 12, 13, 14, 6, 7, 8, 9, 10, 11] rfl
        have hD := hD.sub (ws' := [(oX10 x0 y0 0 z0 p0 dr pa to_ s0 im ki tr v0 rf), (oX6 p0 p1 p2 p3 p4 (nI w)), (aI g p1 24 sd), (aI g p2 10 fn), (aI g p3 6 st), (aI g p4 6 me), (oX6 dr d1 d2 d3 d4 (nI uw_16)), (aI g d1 24 ud_17), (aI g d2 10 un_18), (aI g d3 6 ut_19), (aI g d4 6 um_20), (oX7 z0 y0 (nI n) (nI k2_12) fb_13 pb_14 z1), (aB g y0 500 tp), (aI g z1 3 nv_15), (oX8 s0 h0 a0 b0 e0), (oX4 h0 q0 q1 mo), (aI g q0 24 f), (oX2 b0 b1 b2 x y rl hd th), (oX3 e0 e1 e2), (aI g e1 36 co)]) [0, 1, 2, 3, 4, 5, 15, 16, 17, 18, 19, 12, 13, 14, 6, 7, 8, 9, 10, 11] (by decide) rfl
        exact he_ri hQ hx hb hr hlk hP hD hS dX10_siege_58 (Nat.le_of_ble_eq_true rfl) (Nat.le_of_ble_eq_true rfl) ((p0, dr, to_, ki, k2_12, fb_13, pb_14, nv_15, uw_16, ud_17, un_18, ut_19, um_20, mo, f, rl, hd, th, co)) (rfl) (⟨by dsimp only; exact hf_29, Or.inl ⟨rfl, rfl, rfl, rfl, rfl, rfl, rfl, rfl, rfl, rfl, fun h9 => c_30 (Eq.trans hf_21 h9), by dsimp only; rw [hf_21]⟩, hf_22, hf_23, hf_24, hf_25, hf_26, hf_27, hf_28⟩)
set_option maxHeartbeats 4000000 in
set_option maxRecDepth 100000 in
theorem p_X10_contract (l : Launch) (g : he_G) (x0 : Nat) (y0 : Nat) (z0 : Nat) (dr : Nat) (pa : Nat) (s0 : Nat) (im : Nat) (tr : Nat) (v0 : Nat) (rf : Nat) (k : Nat) (nt : Nat) (ki : Int32) (p0 : Nat) (p1 : Nat) (p2 : Nat) (p3 : Nat) (p4 : Nat) (w : Nat) (t0 : Nat) (t1 : Nat) (t2 : Nat) (pw : Int32) (pd : Nat → Int32) (wb : Nat → Int32) (pf : Nat → Option Nat) (z1 : Nat) (y1 : Nat) (n1 : Int32) (at1 : Int32) (fa : Int32) (pl : Int32) (tp : Nat → Int32) (nu : Nat → Int32) (n : Nat) (T : Nat → Nat) (hnk : n ≤ k) (hk5 : k ≤ 500) (hn2 : n ≤ 200) (hnt : nt < 6) (hw6 : w ≤ 6) (hpf : pf nt = some t0) (hT : ∀ j, j < n → T j < 256 ∧ tp j = sbI (T j)) : he_I l yX10_contract wsX10_contract 8 185 0 0 g [.ref x0, .int (nI n)] [(oX10 x0 y0 (nI k) z0 p0 dr pa (nI nt) s0 im ki tr v0 rf), (oX6 p0 p1 p2 p3 p4 (nI w)), (aP g pa 7 pf), (oX5 t0 t1 t2 pw), (aI g t1 6 pd), (aI g t2 36 wb), (oX7 z0 y1 n1 at1 fa pl z1), (aB g y0 500 tp), (aI g z1 3 nu)] (fun (r : Int32) (u : Nat × Nat × Int32 × Int32 × (Nat → Int32) × (Nat → Int32) × (Nat → Int32) × Int32) => ((u.1 = nt ∧ ¬ u.2.2.1 = 0 ∧ r = u.2.2.1 - 10) ∨ (u.1 = nt + 1 ∧ u.2.2.1 = 0 ∧ r = nI nt)) ∧ (u.2.2.1 = faC (txP T n wl5 (bd5 w) (fun b _ => fl5 b) 21 0 0 0).1) ∧ (u.2.2.2.1 = faP (txP T n wl5 (bd5 w) (fun b _ => fl5 b) 21 0 0 0).1) ∧ (u.2.2.2.2.2.1 = fdRl (txP T n wl5 (bd5 w) (fun b _ => fl5 b) 21 0 0 0).2 (clP pd)) ∧ (u.2.2.2.2.2.2.1 = fdB (txP T n wl5 (bd5 w) (fun b _ => fl5 b) 21 0 0 0).2 (flF (fun _ => -1) wb 36))) (fun (u : Nat × Nat × Int32 × Int32 × (Nat → Int32) × (Nat → Int32) × (Nat → Int32) × Int32) => [(oX10 x0 y0 0 z0 p0 dr pa (nI u.1) s0 im ki tr v0 rf), (oX6 p0 p1 p2 p3 p4 (nI w)), (aP g pa 7 pf), (oX5 t0 t1 t2 u.2.2.2.2.2.2.2), (aI g t1 6 u.2.2.2.2.2.1), (aI g t2 36 u.2.2.2.2.2.2.1), (oX7 z0 y0 (nI n) (nI u.2.1) u.2.2.1 u.2.2.2.1 z1), (aB g y0 500 tp), (aI g z1 3 u.2.2.2.2.1)]) := by
  refine he_begin (l := l) (g := g) (y := yX10_contract) (wl := wsX10_contract) (fr := 8) (lo := 185) (mc := 0) (ms := 0) (av := [.ref x0, .int (nI n)]) (ws := [(oX10 x0 y0 (nI k) z0 p0 dr pa (nI nt) s0 im ki tr v0 rf), (oX6 p0 p1 p2 p3 p4 (nI w)), (aP g pa 7 pf), (oX5 t0 t1 t2 pw), (aI g t1 6 pd), (aI g t2 36 wb), (oX7 z0 y1 n1 at1 fa pl z1), (aB g y0 500 tp), (aI g z1 3 nu)]) (cc := cX10_contract) (maxL := 4) (ret := (some .int)) (fun A => va_Qi (fun (r : Int32) (u : Nat × Nat × Int32 × Int32 × (Nat → Int32) × (Nat → Int32) × (Nat → Int32) × Int32) => ((u.1 = nt ∧ ¬ u.2.2.1 = 0 ∧ r = u.2.2.1 - 10) ∨ (u.1 = nt + 1 ∧ u.2.2.1 = 0 ∧ r = nI nt)) ∧ (u.2.2.1 = faC (txP T n wl5 (bd5 w) (fun b _ => fl5 b) 21 0 0 0).1) ∧ (u.2.2.2.1 = faP (txP T n wl5 (bd5 w) (fun b _ => fl5 b) 21 0 0 0).1) ∧ (u.2.2.2.2.2.1 = fdRl (txP T n wl5 (bd5 w) (fun b _ => fl5 b) 21 0 0 0).2 (clP pd)) ∧ (u.2.2.2.2.2.2.1 = fdB (txP T n wl5 (bd5 w) (fun b _ => fl5 b) 21 0 0 0).2 (flF (fun _ => -1) wb 36))) (fun u t => he_post g A ((fun (u : Nat × Nat × Int32 × Int32 × (Nat → Int32) × (Nat → Int32) × (Nat → Int32) × Int32) => [(oX10 x0 y0 0 z0 p0 dr pa (nI u.1) s0 im ki tr v0 rf), (oX6 p0 p1 p2 p3 p4 (nI w)), (aP g pa 7 pf), (oX5 t0 t1 t2 u.2.2.2.2.2.2.2), (aI g t1 6 u.2.2.2.2.2.1), (aI g t2 36 u.2.2.2.2.2.2.1), (oX7 z0 y0 (nI n) (nI u.2.1) u.2.2.1 u.2.2.2.1 z1), (aB g y0 500 tp), (aI g z1 3 u.2.2.2.2.1)]) u) t) A) (by decide) rfl (Nat.le_of_ble_eq_true rfl) ?_
  intro p e s m args below meth c A ls H locs Q hQ hB
  obtain ⟨hx, hb, hr, hml, hown, hts, hlk, hin, hP, hK, hD, hS, hA, hE, hl⟩ := hB
  have hl : lv_has ls 4 [(0, .ref x0), (1, .int (nI n))] := hl
  have f73 := hts (.fieldLink RX10 73 "HiredEnemy" "taped" "I") (iwoX10_contract (k := 0) rfl)
  have inX10 : ∀ w ∈ wsX100, w ∈ wsX10_contract := innX10_contract_X10
  have f92 := hts (.fieldLink RX10 92 "HiredEnemy" "pactsTold" "I") (iwoX10_contract (k := 1) rfl)
  have f32 := hts (.fieldLink RX10 32 "HiredEnemy" "pacts" "[LHiredEnemy$Pact;") (iwoX10_contract (k := 4) rfl)
  have f23 := hts (.fieldLink RX10 23 "HiredEnemy" "plan" "LHiredEnemy$Plan;") (iwoX10_contract (k := 5) rfl)
  have f99 := hts (.fieldLink RX10 99 "HiredEnemy$Plan" "walls" "I") (iwoX10_contract (k := 6) rfl)
  have inX6 : ∀ w ∈ wsX60, w ∈ wsX10_contract := innX10_contract_X6
  have f16 := hts (.fieldLink RX10 16 "HiredEnemy" "reader" "LHiredEnemy$Reader;") (iwoX10_contract (k := 2) rfl)
  have f9 := hts (.fieldLink RX10 9 "HiredEnemy" "tape" "[B") (iwoX10_contract (k := 7) rfl)
  refine lv_aload_n hx hb dX10_contract_0 rfl (lv_at hl 0 rfl) ?_
  refine lv_iload_n hx hb dX10_contract_1 rfl (lv_at hl 1 rfl) ?_
  refine lv_if_lt (tgt := 24) hx hb dX10_contract_2 (by decide) (fun c_1 => ?_) (fun c_1 => ?_)
  · exact absurd c_1 (nI_pos (by omega))
  · refine lv_iload_n hx hb dX10_contract_5 rfl (lv_at hl 1 rfl) ?_
    refine lv_aload_n hx hb dX10_contract_6 rfl (lv_at hl 0 rfl) ?_
    refine va_get (v := .int (nI k)) (T := TX10) (N := 13) hx hb hts inX10 hown hK hP 0 rfl rfl 1 (by decide) f73 (fun _ h9 => h9) rfl dX10_contract_7 ?_
    refine lv_icmp_gt (tgt := 24) hx hb dX10_contract_10 (by decide) (fun c_2 => ?_) (fun c_2 => ?_)
    · exact absurd c_2 (fun h9 => absurd ((nI_ltI (by omega) (by omega)).mp h9) (by omega))
    · refine lv_iload_n hx hb dX10_contract_13 rfl (lv_at hl 1 rfl) ?_
      refine lv_sipush (v := 200) hx hb dX10_contract_14 (by decide) ?_
      refine lv_icmp_gt (tgt := 24) hx hb dX10_contract_17 (by decide) (fun c_3 => ?_) (fun c_3 => ?_)
      · exact absurd c_3 (fun h9 => absurd ((he_clt (a := 200) (b := n) (by decide) rfl (by decide) (by omega)).mp h9) (by omega))
      · refine lv_iconst (v := 1) hx hb dX10_contract_20 (by decide) ?_
        refine lv_goto (tgt := 25) hx hb dX10_contract_21 (by decide) ?_
        refine he_cv (wc := []) (wr := [(oX10 x0 y0 (nI k) z0 p0 dr pa (nI nt) s0 im ki tr v0 rf), (oX6 p0 p1 p2 p3 p4 (nI w)), (aP g pa 7 pf), (oX5 t0 t1 t2 pw), (aI g t1 6 pd), (aI g t2 36 wb), (oX7 z0 y1 n1 at1 fa pl z1), (aB g y0 500 tp), (aI g z1 3 nu)]) (va_runV (As := [.int 1]) (rest := []) ⟨hx, hb, hml, hown, hts⟩ (c_X10_demand1 l g x0 H.size) (cwV 1 hts gX10_contract_X10_demand rfl rfl rfl (by decide +kernel) ⟨Nat.le_of_ble_eq_true rfl, Nat.le_of_ble_eq_true rfl⟩) (he_preV (wc := []) hK hP hD hS hA hE [] rfl rfl 0 rfl rfl) rfl rfl hl.1 rfl (lv_room (Nat.le_of_ble_eq_true rfl)) dX10_contract_25 ⟨(Nat.le_of_ble_eq_true rfl), (Nat.le_of_ble_eq_true rfl)⟩) hP hD hS hA [] [0, 1, 2, 3, 4, 5, 6, 7, 8] rfl rfl rfl (by decide) (fun u_5 H locs h_6 hP hD hS => ?_)
        have hP : va_P g.1 vwCl [(oX10 x0 y0 (nI k) z0 p0 dr pa (nI nt) s0 im ki tr v0 rf), (oX6 p0 p1 p2 p3 p4 (nI w)), (aP g pa 7 pf), (oX5 t0 t1 t2 pw), (aI g t1 6 pd), (aI g t2 36 wb), (oX7 z0 y1 n1 at1 fa pl z1), (aB g y0 500 tp), (aI g z1 3 nu)] H := hP
        have hD : va_D A [(oX10 x0 y0 (nI k) z0 p0 dr pa (nI nt) s0 im ki tr v0 rf), (oX6 p0 p1 p2 p3 p4 (nI w)), (aP g pa 7 pf), (oX5 t0 t1 t2 pw), (aI g t1 6 pd), (aI g t2 36 wb), (oX7 z0 y1 n1 at1 fa pl z1), (aB g y0 500 tp), (aI g z1 3 nu)] := hD
        refine lv_aload_n hx hb dX10_contract_28 rfl (lv_at hl 0 rfl) ?_
        refine lv_iconst (v := 0) hx hb dX10_contract_29 (by decide) ?_
        refine va_put (v := .int 0) (ty := .int) (T := TX10) (N := 13) hx hb hts inX10 tyX10 tyX10_ok nmX10 hown hK hP hD hS 0 rfl rfl 1 (by decide) f73 (fun _ h9 => h9) rfl (by decide +kernel) rfl rfl (Nat.le_of_ble_eq_true rfl) dX10_contract_30 (fun H locs hP hD hS => ?_)
        have hP : va_P g.1 vwCl [(oX10 x0 y0 0 z0 p0 dr pa (nI nt) s0 im ki tr v0 rf), (oX6 p0 p1 p2 p3 p4 (nI w)), (aP g pa 7 pf), (oX5 t0 t1 t2 pw), (aI g t1 6 pd), (aI g t2 36 wb), (oX7 z0 y1 n1 at1 fa pl z1), (aB g y0 500 tp), (aI g z1 3 nu)] H := hP
        have hD : va_D A [(oX10 x0 y0 0 z0 p0 dr pa (nI nt) s0 im ki tr v0 rf), (oX6 p0 p1 p2 p3 p4 (nI w)), (aP g pa 7 pf), (oX5 t0 t1 t2 pw), (aI g t1 6 pd), (aI g t2 36 wb), (oX7 z0 y1 n1 at1 fa pl z1), (aB g y0 500 tp), (aI g z1 3 nu)] := hD
        refine lv_aload_n hx hb dX10_contract_33 rfl (lv_at hl 0 rfl) ?_
        refine va_get (v := .int (nI nt)) (T := TX10) (N := 13) hx hb hts inX10 hown hK hP 0 rfl rfl 6 (by decide) f92 (fun _ h9 => h9) rfl dX10_contract_34 ?_
        refine lv_bipush (v := 6) hx hb dX10_contract_37 (by decide) ?_
        refine lv_icmp_lt (tgt := 52) hx hb dX10_contract_39 (by decide) (fun c_7 => ?_) (fun c_7 => ?_)
        · refine lv_aload_n hx hb dX10_contract_52 rfl (lv_at hl 0 rfl) ?_
          refine va_get (v := .ref pa) (T := TX10) (N := 13) hx hb hts inX10 hown hK hP 0 rfl rfl 5 (by decide) f32 (fun _ h9 => h9) rfl dX10_contract_53 ?_
          refine lv_aload_n hx hb dX10_contract_56 rfl (lv_at hl 0 rfl) ?_
          refine va_get (v := .int (nI nt)) (T := TX10) (N := 13) hx hb hts inX10 hown hK hP 0 rfl rfl 6 (by decide) f92 (fun _ h9 => h9) rfl dX10_contract_57 ?_
          refine he_ald hx hb 2 rfl hK hP 2 rfl (nt) rfl (by first | assumption | decide | omega) (by first | decide | assumption) (.ref t0) (by rw [hpf]; rfl) dX10_contract_60 ?_
          refine lv_astore_n (lv' := [(2, .ref t0), (0, .ref x0), (1, .int (nI n))]) hx hb dX10_contract_61 rfl hl (by decide) rfl (fun ls hl => ?_)
          refine lv_aload_n hx hb dX10_contract_62 rfl (lv_at hl 0 rfl) ?_
          refine lv_aload_n hx hb dX10_contract_63 rfl (lv_at hl 1 rfl) ?_
          refine va_get (v := .ref p0) (T := TX10) (N := 13) hx hb hts inX10 hown hK hP 0 rfl rfl 3 (by decide) f23 (fun _ h9 => h9) rfl dX10_contract_64 ?_
          refine va_get (v := .int (nI w)) (T := TX6) (N := 5) hx hb hts inX6 hown hK hP 1 rfl rfl 4 (by decide) f99 (fun _ h9 => h9) rfl dX10_contract_67 ?_
          refine he_cv (wc := [(oX5 t0 t1 t2 pw), (aI g t1 6 pd), (aI g t2 36 wb)]) (wr := [(oX10 x0 y0 0 z0 p0 dr pa (nI nt) s0 im ki tr v0 rf), (oX6 p0 p1 p2 p3 p4 (nI w)), (aP g pa 7 pf), (oX7 z0 y1 n1 at1 fa pl z1), (aB g y0 500 tp), (aI g z1 3 nu)]) (va_runV (As := [.int (nI w)]) (rest := []) ⟨hx, hb, hml, hown, hts⟩ (c_X5_clear l g t0 t1 t2 pw pd wb (nI w) H.size) (cwV 1 hts gX10_contract_X5_clear rfl rfl rfl (by decide +kernel) ⟨Nat.le_of_ble_eq_true rfl, Nat.le_of_ble_eq_true rfl⟩) (he_preV (wc := [(oX5 t0 t1 t2 pw), (aI g t1 6 pd), (aI g t2 36 wb)]) hK hP hD hS hA hE [3, 4, 5] rfl rfl 3 rfl rfl) rfl rfl hl.1 rfl (lv_room (Nat.le_of_ble_eq_true rfl)) dX10_contract_70 ⟨(Nat.le_of_ble_eq_true rfl), (Nat.le_of_ble_eq_true rfl)⟩) hP hD hS hA [3, 4, 5] [0, 1, 2, 6, 7, 8] rfl rfl rfl (by decide) (fun u_9 H locs h_10 hP hD hS => ?_)
          have hP : va_P g.1 vwCl [(oX10 x0 y0 0 z0 p0 dr pa (nI nt) s0 im ki tr v0 rf), (oX6 p0 p1 p2 p3 p4 (nI w)), (aP g pa 7 pf), (oX7 z0 y1 n1 at1 fa pl z1), (aB g y0 500 tp), (aI g z1 3 nu), (oX5 t0 t1 t2 (nI w)), (aI g t1 6 (clP pd)), (aI g t2 36 (flF (fun _ => -1) wb 36))] H := hP
          have hD : va_D A [(oX10 x0 y0 0 z0 p0 dr pa (nI nt) s0 im ki tr v0 rf), (oX6 p0 p1 p2 p3 p4 (nI w)), (aP g pa 7 pf), (oX7 z0 y1 n1 at1 fa pl z1), (aB g y0 500 tp), (aI g z1 3 nu), (oX5 t0 t1 t2 (nI w)), (aI g t1 6 (clP pd)), (aI g t2 36 (flF (fun _ => -1) wb 36))] := hD
          refine lv_aload_n hx hb dX10_contract_73 rfl (lv_at hl 1 rfl) ?_
          refine va_get (v := .ref z0) (T := TX10) (N := 13) hx hb hts inX10 hown hK hP 0 rfl rfl 2 (by decide) f16 (fun _ h9 => h9) rfl dX10_contract_74 ?_
          refine lv_aload_n hx hb dX10_contract_77 rfl (lv_at hl 1 rfl) ?_
          refine va_get (v := .ref y0) (T := TX10) (N := 13) hx hb hts inX10 hown hK hP 0 rfl rfl 0 (by decide) f9 (fun _ h9 => h9) rfl dX10_contract_78 ?_
          refine lv_iload_n hx hb dX10_contract_81 rfl (lv_at hl 2 rfl) ?_
          refine lv_aload_n hx hb dX10_contract_82 rfl (lv_at hl 0 rfl) ?_
          refine he_ci (wc := [(oX7 z0 y1 n1 at1 fa pl z1), (aB g y0 500 tp), (aI g z1 3 nu), (oX5 t0 t1 t2 (nI w)), (aI g t1 6 (clP pd)), (aI g t2 36 (flF (fun _ => -1) wb 36))]) (wr := [(oX10 x0 y0 0 z0 p0 dr pa (nI nt) s0 im ki tr v0 rf), (oX6 p0 p1 p2 p3 p4 (nI w)), (aP g pa 7 pf)]) (va_runV (As := [.ref y0, .int (nI n), .ref t0]) (rest := []) ⟨hx, hb, hml, hown, hts⟩ (p_X7_read5 l g z0 z1 y0 n y1 n1 at1 fa pl tp T nu t0 t1 t2 w (clP pd) (flF (fun _ => -1) wb 36) (by omega) (by first | assumption | decide | omega) (by first | assumption | decide | omega) H.size) (cwV 3 hts gX10_contract_X7_read rfl rfl rfl (by decide +kernel) ⟨Nat.le_of_ble_eq_true rfl, Nat.le_of_ble_eq_true rfl⟩) (he_preV (wc := [(oX7 z0 y1 n1 at1 fa pl z1), (aB g y0 500 tp), (aI g z1 3 nu), (oX5 t0 t1 t2 (nI w)), (aI g t1 6 (clP pd)), (aI g t2 36 (flF (fun _ => -1) wb 36))]) hK hP hD hS hA hE [3, 4, 5, 6, 7, 8] rfl rfl 3 rfl rfl) rfl rfl hl.1 rfl (lv_room (Nat.le_of_ble_eq_true rfl)) dX10_contract_83 ⟨(Nat.le_of_ble_eq_true rfl), (Nat.le_of_ble_eq_true rfl)⟩) hP hD hS hA [3, 4, 5, 6, 7, 8] [0, 1, 2] rfl rfl rfl (by decide) (fun r_11 u_12 H locs h_13 hP hD hS => ?_)
          obtain ⟨k2_14, fb_15, pb_16, nv_17, ud_18, ub_19⟩ := u_12
          try dsimp only at h_13
          obtain ⟨hf_20, hf_21, hf_22, hf_23, hf_24⟩ := h_13
          have hP : va_P g.1 vwCl [(oX10 x0 y0 0 z0 p0 dr pa (nI nt) s0 im ki tr v0 rf), (oX6 p0 p1 p2 p3 p4 (nI w)), (aP g pa 7 pf), (oX7 z0 y0 (nI n) (nI k2_14) fb_15 pb_16 z1), (aB g y0 500 tp), (aI g z1 3 nv_17), (oX5 t0 t1 t2 (nI w)), (aI g t1 6 ud_18), (aI g t2 36 ub_19)] H := hP
          have hD : va_D A [(oX10 x0 y0 0 z0 p0 dr pa (nI nt) s0 im ki tr v0 rf), (oX6 p0 p1 p2 p3 p4 (nI w)), (aP g pa 7 pf), (oX7 z0 y0 (nI n) (nI k2_14) fb_15 pb_16 z1), (aB g y0 500 tp), (aI g z1 3 nv_17), (oX5 t0 t1 t2 (nI w)), (aI g t1 6 ud_18), (aI g t2 36 ub_19)] := hD
          refine lv_istore_n (lv' := [(3, .int r_11), (2, .ref t0), (0, .ref x0), (1, .int (nI n))]) hx hb dX10_contract_86 rfl hl (by decide) rfl (fun ls hl => ?_)
          refine lv_iload_n hx hb dX10_contract_87 rfl (lv_at hl 0 rfl) ?_
          refine lv_if_eq (tgt := 96) hx hb dX10_contract_88 (by decide) (fun c_25 => ?_) (fun c_25 => ?_)
          · refine lv_aload_n hx hb dX10_contract_96 rfl (lv_at hl 2 rfl) ?_
            refine lv_dup hx hb dX10_contract_97 rfl ?_
            refine va_get (v := .int (nI nt)) (T := TX10) (N := 13) hx hb hts inX10 hown hK hP 0 rfl rfl 6 (by decide) f92 (fun _ h9 => h9) rfl dX10_contract_98 ?_
            refine lv_iconst (v := 1) hx hb dX10_contract_101 (by decide) ?_
            refine lv_iadd hx hb dX10_contract_102 ?_
            refine he_top (nI (nt + 1)) (nI_add nt 1) ?_
            refine va_put (v := .int (nI (nt + 1))) (ty := .int) (T := TX10) (N := 13) hx hb hts inX10 tyX10 tyX10_ok nmX10 hown hK hP hD hS 0 rfl rfl 6 (by decide) f92 (fun _ h9 => h9) rfl (by decide +kernel) rfl rfl (Nat.le_of_ble_eq_true rfl) dX10_contract_103 (fun H locs hP hD hS => ?_)
            have hP : va_P g.1 vwCl [(oX10 x0 y0 0 z0 p0 dr pa (nI (nt + 1)) s0 im ki tr v0 rf), (oX6 p0 p1 p2 p3 p4 (nI w)), (aP g pa 7 pf), (oX7 z0 y0 (nI n) (nI k2_14) fb_15 pb_16 z1), (aB g y0 500 tp), (aI g z1 3 nv_17), (oX5 t0 t1 t2 (nI w)), (aI g t1 6 ud_18), (aI g t2 36 ub_19)] H := hP
            have hD : va_D A [(oX10 x0 y0 0 z0 p0 dr pa (nI (nt + 1)) s0 im ki tr v0 rf), (oX6 p0 p1 p2 p3 p4 (nI w)), (aP g pa 7 pf), (oX7 z0 y0 (nI n) (nI k2_14) fb_15 pb_16 z1), (aB g y0 500 tp), (aI g z1 3 nv_17), (oX5 t0 t1 t2 (nI w)), (aI g t1 6 ud_18), (aI g t2 36 ub_19)] := hD
            refine lv_aload_n hx hb dX10_contract_106 rfl (lv_at hl 2 rfl) ?_
            refine va_get (v := .int (nI (nt + 1))) (T := TX10) (N := 13) hx hb hts inX10 hown hK hP 0 rfl rfl 6 (by decide) f92 (fun _ h9 => h9) rfl dX10_contract_107 ?_
            refine lv_iconst (v := 1) hx hb dX10_contract_110 (by decide) ?_
            refine lv_isub hx hb dX10_contract_111 ?_
            refine he_top (nI nt) (nI_pred nt) ?_
            have hP := hP.sub (ws' := [(oX10 x0 y0 0 z0 p0 dr pa (nI (nt + 1)) s0 im ki tr v0 rf), (oX6 p0 p1 p2 p3 p4 (nI w)), (aP g pa 7 pf), (oX5 t0 t1 t2 (nI w)), (aI g t1 6 ud_18), (aI g t2 36 ub_19), (oX7 z0 y0 (nI n) (nI k2_14) fb_15 pb_16 z1), (aB g y0 500 tp), (aI g z1 3 nv_17)]) [0, 1, 2, 6, 7, 8, 3, 4, 5] rfl
            have hD := hD.sub (ws' := [(oX10 x0 y0 0 z0 p0 dr pa (nI (nt + 1)) s0 im ki tr v0 rf), (oX6 p0 p1 p2 p3 p4 (nI w)), (aP g pa 7 pf), (oX5 t0 t1 t2 (nI w)), (aI g t1 6 ud_18), (aI g t2 36 ub_19), (oX7 z0 y0 (nI n) (nI k2_14) fb_15 pb_16 z1), (aB g y0 500 tp), (aI g z1 3 nv_17)]) [0, 1, 2, 6, 7, 8, 3, 4, 5] (by decide) rfl
            exact he_ri hQ hx hb hr hlk hP hD hS dX10_contract_112 (Nat.le_of_ble_eq_true rfl) (Nat.le_of_ble_eq_true rfl) ((nt + 1, k2_14, fb_15, pb_16, nv_17, ud_18, ub_19, nI w)) (rfl) (⟨Or.inr ⟨rfl, Eq.trans (Eq.symm hf_20) c_25, rfl⟩, hf_21, hf_22, hf_23, hf_24⟩)
          · refine lv_iload_n hx hb dX10_contract_91 rfl (lv_at hl 0 rfl) ?_
            refine lv_bipush (v := 10) hx hb dX10_contract_92 (by decide) ?_
            refine lv_isub hx hb dX10_contract_94 ?_
            have hP := hP.sub (ws' := [(oX10 x0 y0 0 z0 p0 dr pa (nI nt) s0 im ki tr v0 rf), (oX6 p0 p1 p2 p3 p4 (nI w)), (aP g pa 7 pf), (oX5 t0 t1 t2 (nI w)), (aI g t1 6 ud_18), (aI g t2 36 ub_19), (oX7 z0 y0 (nI n) (nI k2_14) fb_15 pb_16 z1), (aB g y0 500 tp), (aI g z1 3 nv_17)]) [0, 1, 2, 6, 7, 8, 3, 4, 5] rfl
            have hD := hD.sub (ws' := [(oX10 x0 y0 0 z0 p0 dr pa (nI nt) s0 im ki tr v0 rf), (oX6 p0 p1 p2 p3 p4 (nI w)), (aP g pa 7 pf), (oX5 t0 t1 t2 (nI w)), (aI g t1 6 ud_18), (aI g t2 36 ub_19), (oX7 z0 y0 (nI n) (nI k2_14) fb_15 pb_16 z1), (aB g y0 500 tp), (aI g z1 3 nv_17)]) [0, 1, 2, 6, 7, 8, 3, 4, 5] (by decide) rfl
            exact he_ri hQ hx hb hr hlk hP hD hS dX10_contract_95 (Nat.le_of_ble_eq_true rfl) (Nat.le_of_ble_eq_true rfl) ((nt, k2_14, fb_15, pb_16, nv_17, ud_18, ub_19, nI w)) (rfl) (⟨Or.inl ⟨rfl, fun h9 => c_25 (Eq.trans hf_20 h9), by dsimp only; rw [hf_20]⟩, hf_21, hf_22, hf_23, hf_24⟩)
        · exact absurd ((he_clt (a := nt) (b := 6) rfl (by decide) (by omega) (by decide)).mpr hnt) c_7
