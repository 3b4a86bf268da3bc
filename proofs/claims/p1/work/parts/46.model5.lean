def dgF (x : Int32) : Nat → Int32
  | 0 => x / 49
  | 1 => x / 7 - x / 7 / 7 * 7
  | _ => x - x / 7 * 7
set_option maxHeartbeats 4000000 in
set_option maxRecDepth 100000 in
theorem c_X11_digit0 (l : Launch) (g : he_G) (x : Int32)  : he_I l yX11_digit wsX11_digit 0 0 0 0 g [.int x, .int 0] [] (fun (r : Int32) (u : Unit) => r = dgF x 0) (fun (u : Unit) => []) := by
  refine he_begin (l := l) (g := g) (y := yX11_digit) (wl := wsX11_digit) (fr := 0) (lo := 0) (mc := 0) (ms := 0) (av := [.int x, .int 0]) (ws := []) (cc := cX11_digit) (maxL := 2) (ret := (some .int)) (fun A => va_Qi (fun (r : Int32) (u : Unit) => r = dgF x 0) (fun u t => he_post g A ((fun (u : Unit) => []) u) t) A) (by decide) rfl (Nat.le_of_ble_eq_true rfl) ?_
  intro p e s m args below meth c A ls H locs Q hQ hB
  obtain ⟨hx, hb, hr, hml, hown, hts, hlk, hin, hP, hK, hD, hS, hA, hE, hl⟩ := hB
  have hl : lv_has ls 2 [(0, .int x), (1, .int 0)] := hl
  refine lv_iload_n hx hb dX11_digit_0 rfl (lv_at hl 1 rfl) ?_
  refine lv_if_ne (tgt := 11) hx hb dX11_digit_1 (by decide) (fun c_1 => ?_) (fun c_1 => ?_)
  · exact absurd (by decide) c_1
  · refine lv_iload_n hx hb dX11_digit_4 rfl (lv_at hl 0 rfl) ?_
    refine lv_bipush (v := 49) hx hb dX11_digit_5 (by decide) ?_
    refine lv_idiv hx hb dX11_digit_7 (by decide) ?_
    refine lv_goto (tgt := 30) hx hb dX11_digit_8 (by decide) ?_
    exact he_ri hQ hx hb hr hlk hP hD hS dX11_digit_30 (Nat.le_of_ble_eq_true rfl) (Nat.le_of_ble_eq_true rfl) (()) (rfl) (rfl)
set_option maxHeartbeats 4000000 in
set_option maxRecDepth 100000 in
theorem c_X11_digit1 (l : Launch) (g : he_G) (x : Int32)  : he_I l yX11_digit wsX11_digit 0 0 0 0 g [.int x, .int 1] [] (fun (r : Int32) (u : Unit) => r = dgF x 1) (fun (u : Unit) => []) := by
  refine he_begin (l := l) (g := g) (y := yX11_digit) (wl := wsX11_digit) (fr := 0) (lo := 0) (mc := 0) (ms := 0) (av := [.int x, .int 1]) (ws := []) (cc := cX11_digit) (maxL := 2) (ret := (some .int)) (fun A => va_Qi (fun (r : Int32) (u : Unit) => r = dgF x 1) (fun u t => he_post g A ((fun (u : Unit) => []) u) t) A) (by decide) rfl (Nat.le_of_ble_eq_true rfl) ?_
  intro p e s m args below meth c A ls H locs Q hQ hB
  obtain ⟨hx, hb, hr, hml, hown, hts, hlk, hin, hP, hK, hD, hS, hA, hE, hl⟩ := hB
  have hl : lv_has ls 2 [(0, .int x), (1, .int 1)] := hl
  refine lv_iload_n hx hb dX11_digit_0 rfl (lv_at hl 1 rfl) ?_
  refine lv_if_ne (tgt := 11) hx hb dX11_digit_1 (by decide) (fun c_1 => ?_) (fun c_1 => ?_)
  · refine lv_iload_n hx hb dX11_digit_11 rfl (lv_at hl 1 rfl) ?_
    refine lv_iconst (v := 1) hx hb dX11_digit_12 (by decide) ?_
    refine lv_icmp_ne (tgt := 26) hx hb dX11_digit_13 (by decide) (fun c_2 => ?_) (fun c_2 => ?_)
    · exact absurd (by decide) c_2
    · refine lv_iload_n hx hb dX11_digit_16 rfl (lv_at hl 0 rfl) ?_
      refine lv_bipush (v := 7) hx hb dX11_digit_17 (by decide) ?_
      refine lv_idiv hx hb dX11_digit_19 (by decide) ?_
      refine lv_bipush (v := 7) hx hb dX11_digit_20 (by decide) ?_
      refine lv_irem hx hb dX11_digit_22 (by decide) ?_
      refine lv_goto (tgt := 30) hx hb dX11_digit_23 (by decide) ?_
      exact he_ri hQ hx hb hr hlk hP hD hS dX11_digit_30 (Nat.le_of_ble_eq_true rfl) (Nat.le_of_ble_eq_true rfl) (()) (rfl) (rfl)
  · exact absurd c_1 (by decide)
set_option maxHeartbeats 4000000 in
set_option maxRecDepth 100000 in
theorem c_X11_digit2 (l : Launch) (g : he_G) (x : Int32)  : he_I l yX11_digit wsX11_digit 0 0 0 0 g [.int x, .int 2] [] (fun (r : Int32) (u : Unit) => r = dgF x 2) (fun (u : Unit) => []) := by
  refine he_begin (l := l) (g := g) (y := yX11_digit) (wl := wsX11_digit) (fr := 0) (lo := 0) (mc := 0) (ms := 0) (av := [.int x, .int 2]) (ws := []) (cc := cX11_digit) (maxL := 2) (ret := (some .int)) (fun A => va_Qi (fun (r : Int32) (u : Unit) => r = dgF x 2) (fun u t => he_post g A ((fun (u : Unit) => []) u) t) A) (by decide) rfl (Nat.le_of_ble_eq_true rfl) ?_
  intro p e s m args below meth c A ls H locs Q hQ hB
  obtain ⟨hx, hb, hr, hml, hown, hts, hlk, hin, hP, hK, hD, hS, hA, hE, hl⟩ := hB
  have hl : lv_has ls 2 [(0, .int x), (1, .int 2)] := hl
  refine lv_iload_n hx hb dX11_digit_0 rfl (lv_at hl 1 rfl) ?_
  refine lv_if_ne (tgt := 11) hx hb dX11_digit_1 (by decide) (fun c_1 => ?_) (fun c_1 => ?_)
  · refine lv_iload_n hx hb dX11_digit_11 rfl (lv_at hl 1 rfl) ?_
    refine lv_iconst (v := 1) hx hb dX11_digit_12 (by decide) ?_
    refine lv_icmp_ne (tgt := 26) hx hb dX11_digit_13 (by decide) (fun c_2 => ?_) (fun c_2 => ?_)
    · refine lv_iload_n hx hb dX11_digit_26 rfl (lv_at hl 0 rfl) ?_
      refine lv_bipush (v := 7) hx hb dX11_digit_27 (by decide) ?_
      refine lv_irem hx hb dX11_digit_29 (by decide) ?_
      exact he_ri hQ hx hb hr hlk hP hD hS dX11_digit_30 (Nat.le_of_ble_eq_true rfl) (Nat.le_of_ble_eq_true rfl) (()) (rfl) (rfl)
    · exact absurd c_2 (by decide)
  · exact absurd c_1 (by decide)
set_option maxHeartbeats 4000000 in
set_option maxRecDepth 100000 in
theorem c_X11_puts00 (l : Launch) (g : he_G) (x : Int32) (n : Int32)  : he_I l yX11_puts0 wsX11_puts0 1 21 0 0 g [.int x, .int n, .int 0] [] (fun (r : Int32) (u : Unit) => (r = 0 ∨ r = 1) ∧ (x = 0 → r = 1)) (fun (u : Unit) => []) := by
  refine he_begin (l := l) (g := g) (y := yX11_puts0) (wl := wsX11_puts0) (fr := 1) (lo := 21) (mc := 0) (ms := 0) (av := [.int x, .int n, .int 0]) (ws := []) (cc := cX11_puts0) (maxL := 5) (ret := (some .boolean)) (fun A => va_Qi (fun (r : Int32) (u : Unit) => (r = 0 ∨ r = 1) ∧ (x = 0 → r = 1)) (fun u t => he_post g A ((fun (u : Unit) => []) u) t) A) (by decide) rfl (Nat.le_of_ble_eq_true rfl) ?_
  intro p e s m args below meth c A ls H locs Q hQ hB
  obtain ⟨hx, hb, hr, hml, hown, hts, hlk, hin, hP, hK, hD, hS, hA, hE, hl⟩ := hB
  have hl : lv_has ls 5 [(0, .int x), (1, .int n), (2, .int 0)] := hl
  refine lv_iconst (v := 0) hx hb dX11_puts0_0 (by decide) ?_
  refine lv_istore_n (lv' := [(3, .int 0), (0, .int x), (1, .int n), (2, .int 0)]) hx hb dX11_puts0_1 rfl hl (by decide) rfl (fun ls hl => ?_)
  refine lv_iconst (v := 0) hx hb dX11_puts0_2 (by decide) ?_
  refine lv_istore (lv' := [(4, .int 0), (3, .int 0), (0, .int x), (1, .int n), (2, .int 0)]) hx hb dX11_puts0_3 hl (by decide) rfl (fun ls hl => ?_)
  refine lv_iload hx hb dX11_puts0_5 (lv_at hl 0 rfl) ?_
  refine lv_iconst (v := 3) hx hb dX11_puts0_7 (by decide) ?_
  refine lv_icmp_ge (tgt := 46) hx hb dX11_puts0_8 (by decide) (fun c_1 => ?_) (fun c_1 => ?_)
  · exact absurd c_1 (by decide)
  · refine lv_iload_n hx hb dX11_puts0_11 rfl (lv_at hl 4 rfl) ?_
    refine lv_iload hx hb dX11_puts0_12 (lv_at hl 0 rfl) ?_
    refine lv_ishr hx hb dX11_puts0_14 ?_
    refine he_top (0) (by decide) ?_
    refine lv_iconst (v := 1) hx hb dX11_puts0_15 (by decide) ?_
    refine lv_iand hx hb dX11_puts0_16 ?_
    refine he_top (0) (by decide) ?_
    refine lv_if_ne (tgt := 31) hx hb dX11_puts0_17 (by decide) (fun c_2 => ?_) (fun c_2 => ?_)
    · exact absurd (by decide) c_2
    · refine lv_iload_n hx hb dX11_puts0_20 rfl (lv_at hl 2 rfl) ?_
      refine lv_iload hx hb dX11_puts0_21 (lv_at hl 0 rfl) ?_
      refine he_ci (wc := []) (wr := []) (va_runS (As := [.int x, .int 0]) (rest := []) ⟨hx, hb, hml, hown, hts⟩ (c_X11_digit0 l g x H.size) (va_cwS 2 hts gX11_puts0_X11_digit rfl rfl rfl (by decide +kernel) ⟨Nat.le_of_ble_eq_true rfl, Nat.le_of_ble_eq_true rfl⟩) (he_preS (wc := []) hK hP hD hS hA hE [] rfl rfl) rfl rfl hl.1 rfl (lv_room (Nat.le_of_ble_eq_true rfl)) dX11_puts0_23 ⟨(Nat.le_of_ble_eq_true rfl), (Nat.le_of_ble_eq_true rfl)⟩) hP hD hS hA [] [] rfl rfl rfl (by decide) (fun r_3 u_4 H locs h_5 hP hD hS => ?_)
      subst h_5
      have hP : va_P g.1 vwCl [] H := hP
      have hD : va_D A [] := hD
      refine lv_if_le (tgt := 31) hx hb dX11_puts0_26 (by decide) (fun c_6 => ?_) (fun c_6 => ?_)
      · refine lv_iload_n hx hb dX11_puts0_31 rfl (lv_at hl 1 rfl) ?_
        refine lv_iload_n hx hb dX11_puts0_32 rfl (lv_at hl 2 rfl) ?_
        refine lv_iload hx hb dX11_puts0_33 (lv_at hl 0 rfl) ?_
        refine he_ci (wc := []) (wr := []) (va_runS (As := [.int x, .int 0]) (rest := [.int 0]) ⟨hx, hb, hml, hown, hts⟩ (c_X11_digit0 l g x H.size) (va_cwS 2 hts gX11_puts0_X11_digit rfl rfl rfl (by decide +kernel) ⟨Nat.le_of_ble_eq_true rfl, Nat.le_of_ble_eq_true rfl⟩) (he_preS (wc := []) hK hP hD hS hA hE [] rfl rfl) rfl rfl hl.1 rfl (lv_room (Nat.le_of_ble_eq_true rfl)) dX11_puts0_35 ⟨(Nat.le_of_ble_eq_true rfl), (Nat.le_of_ble_eq_true rfl)⟩) hP hD hS hA [] [] rfl rfl rfl (by decide) (fun r_7 u_8 H locs h_9 hP hD hS => ?_)
        subst h_9
        have hP : va_P g.1 vwCl [] H := hP
        have hD : va_D A [] := hD
        refine lv_iadd hx hb dX11_puts0_38 ?_
        refine lv_istore_n (lv' := [(3, .int (0 + (dgF x 0))), (4, .int 0), (0, .int x), (1, .int n), (2, .int 0)]) hx hb dX11_puts0_39 rfl hl (by decide) rfl (fun ls hl => ?_)
        refine lv_iinc (v := 1) (lv' := [(4, .int 1), (3, .int (0 + (dgF x 0))), (0, .int x), (1, .int n), (2, .int 0)]) hx hb dX11_puts0_40 hl (k := 1) rfl (by decide) (by decide) rfl (fun ls hl => ?_)
        refine lv_goto (tgt := 5) hx hb dX11_puts0_43 (by decide) ?_
        refine lv_iload hx hb dX11_puts0_5 (lv_at hl 0 rfl) ?_
        refine lv_iconst (v := 3) hx hb dX11_puts0_7 (by decide) ?_
        refine lv_icmp_ge (tgt := 46) hx hb dX11_puts0_8 (by decide) (fun c_10 => ?_) (fun c_10 => ?_)
        · exact absurd c_10 (by decide)
        · refine lv_iload_n hx hb dX11_puts0_11 rfl (lv_at hl 4 rfl) ?_
          refine lv_iload hx hb dX11_puts0_12 (lv_at hl 0 rfl) ?_
          refine lv_ishr hx hb dX11_puts0_14 ?_
          refine he_top (0) (by decide) ?_
          refine lv_iconst (v := 1) hx hb dX11_puts0_15 (by decide) ?_
          refine lv_iand hx hb dX11_puts0_16 ?_
          refine he_top (0) (by decide) ?_
          refine lv_if_ne (tgt := 31) hx hb dX11_puts0_17 (by decide) (fun c_11 => ?_) (fun c_11 => ?_)
          · exact absurd (by decide) c_11
          · refine lv_iload_n hx hb dX11_puts0_20 rfl (lv_at hl 2 rfl) ?_
            refine lv_iload hx hb dX11_puts0_21 (lv_at hl 0 rfl) ?_
            refine he_ci (wc := []) (wr := []) (va_runS (As := [.int x, .int 1]) (rest := []) ⟨hx, hb, hml, hown, hts⟩ (c_X11_digit1 l g x H.size) (va_cwS 2 hts gX11_puts0_X11_digit rfl rfl rfl (by decide +kernel) ⟨Nat.le_of_ble_eq_true rfl, Nat.le_of_ble_eq_true rfl⟩) (he_preS (wc := []) hK hP hD hS hA hE [] rfl rfl) rfl rfl hl.1 rfl (lv_room (Nat.le_of_ble_eq_true rfl)) dX11_puts0_23 ⟨(Nat.le_of_ble_eq_true rfl), (Nat.le_of_ble_eq_true rfl)⟩) hP hD hS hA [] [] rfl rfl rfl (by decide) (fun r_12 u_13 H locs h_14 hP hD hS => ?_)
            subst h_14
            have hP : va_P g.1 vwCl [] H := hP
            have hD : va_D A [] := hD
            refine lv_if_le (tgt := 31) hx hb dX11_puts0_26 (by decide) (fun c_15 => ?_) (fun c_15 => ?_)
            · refine lv_iload_n hx hb dX11_puts0_31 rfl (lv_at hl 1 rfl) ?_
              refine lv_iload_n hx hb dX11_puts0_32 rfl (lv_at hl 2 rfl) ?_
              refine lv_iload hx hb dX11_puts0_33 (lv_at hl 0 rfl) ?_
              refine he_ci (wc := []) (wr := []) (va_runS (As := [.int x, .int 1]) (rest := [.int (0 + (dgF x 0))]) ⟨hx, hb, hml, hown, hts⟩ (c_X11_digit1 l g x H.size) (va_cwS 2 hts gX11_puts0_X11_digit rfl rfl rfl (by decide +kernel) ⟨Nat.le_of_ble_eq_true rfl, Nat.le_of_ble_eq_true rfl⟩) (he_preS (wc := []) hK hP hD hS hA hE [] rfl rfl) rfl rfl hl.1 rfl (lv_room (Nat.le_of_ble_eq_true rfl)) dX11_puts0_35 ⟨(Nat.le_of_ble_eq_true rfl), (Nat.le_of_ble_eq_true rfl)⟩) hP hD hS hA [] [] rfl rfl rfl (by decide) (fun r_16 u_17 H locs h_18 hP hD hS => ?_)
              subst h_18
              have hP : va_P g.1 vwCl [] H := hP
              have hD : va_D A [] := hD
              refine lv_iadd hx hb dX11_puts0_38 ?_
              refine lv_istore_n (lv' := [(3, .int ((0 + (dgF x 0)) + (dgF x 1))), (4, .int 1), (0, .int x), (1, .int n), (2, .int 0)]) hx hb dX11_puts0_39 rfl hl (by decide) rfl (fun ls hl => ?_)
              refine lv_iinc (v := 2) (lv' := [(4, .int 2), (3, .int ((0 + (dgF x 0)) + (dgF x 1))), (0, .int x), (1, .int n), (2, .int 0)]) hx hb dX11_puts0_40 hl (k := 1) rfl (by decide) (by decide) rfl (fun ls hl => ?_)
              refine lv_goto (tgt := 5) hx hb dX11_puts0_43 (by decide) ?_
              refine lv_iload hx hb dX11_puts0_5 (lv_at hl 0 rfl) ?_
              refine lv_iconst (v := 3) hx hb dX11_puts0_7 (by decide) ?_
              refine lv_icmp_ge (tgt := 46) hx hb dX11_puts0_8 (by decide) (fun c_19 => ?_) (fun c_19 => ?_)
              · exact absurd c_19 (by decide)
              · refine lv_iload_n hx hb dX11_puts0_11 rfl (lv_at hl 4 rfl) ?_
                refine lv_iload hx hb dX11_puts0_12 (lv_at hl 0 rfl) ?_
                refine lv_ishr hx hb dX11_puts0_14 ?_
                refine he_top (0) (by decide) ?_
                refine lv_iconst (v := 1) hx hb dX11_puts0_15 (by decide) ?_
                refine lv_iand hx hb dX11_puts0_16 ?_
                refine he_top (0) (by decide) ?_
                refine lv_if_ne (tgt := 31) hx hb dX11_puts0_17 (by decide) (fun c_20 => ?_) (fun c_20 => ?_)
                · exact absurd (by decide) c_20
                · refine lv_iload_n hx hb dX11_puts0_20 rfl (lv_at hl 2 rfl) ?_
                  refine lv_iload hx hb dX11_puts0_21 (lv_at hl 0 rfl) ?_
                  refine he_ci (wc := []) (wr := []) (va_runS (As := [.int x, .int 2]) (rest := []) ⟨hx, hb, hml, hown, hts⟩ (c_X11_digit2 l g x H.size) (va_cwS 2 hts gX11_puts0_X11_digit rfl rfl rfl (by decide +kernel) ⟨Nat.le_of_ble_eq_true rfl, Nat.le_of_ble_eq_true rfl⟩) (he_preS (wc := []) hK hP hD hS hA hE [] rfl rfl) rfl rfl hl.1 rfl (lv_room (Nat.le_of_ble_eq_true rfl)) dX11_puts0_23 ⟨(Nat.le_of_ble_eq_true rfl), (Nat.le_of_ble_eq_true rfl)⟩) hP hD hS hA [] [] rfl rfl rfl (by decide) (fun r_21 u_22 H locs h_23 hP hD hS => ?_)
                  subst h_23
                  have hP : va_P g.1 vwCl [] H := hP
                  have hD : va_D A [] := hD
                  refine lv_if_le (tgt := 31) hx hb dX11_puts0_26 (by decide) (fun c_24 => ?_) (fun c_24 => ?_)
                  · refine lv_iload_n hx hb dX11_puts0_31 rfl (lv_at hl 1 rfl) ?_
                    refine lv_iload_n hx hb dX11_puts0_32 rfl (lv_at hl 2 rfl) ?_
                    refine lv_iload hx hb dX11_puts0_33 (lv_at hl 0 rfl) ?_
                    refine he_ci (wc := []) (wr := []) (va_runS (As := [.int x, .int 2]) (rest := [.int ((0 + (dgF x 0)) + (dgF x 1))]) ⟨hx, hb, hml, hown, hts⟩ (c_X11_digit2 l g x H.size) (va_cwS 2 hts gX11_puts0_X11_digit rfl rfl rfl (by decide +kernel) ⟨Nat.le_of_ble_eq_true rfl, Nat.le_of_ble_eq_true rfl⟩) (he_preS (wc := []) hK hP hD hS hA hE [] rfl rfl) rfl rfl hl.1 rfl (lv_room (Nat.le_of_ble_eq_true rfl)) dX11_puts0_35 ⟨(Nat.le_of_ble_eq_true rfl), (Nat.le_of_ble_eq_true rfl)⟩) hP hD hS hA [] [] rfl rfl rfl (by decide) (fun r_25 u_26 H locs h_27 hP hD hS => ?_)
                    subst h_27
                    have hP : va_P g.1 vwCl [] H := hP
                    have hD : va_D A [] := hD
                    refine lv_iadd hx hb dX11_puts0_38 ?_
                    refine lv_istore_n (lv' := [(3, .int (((0 + (dgF x 0)) + (dgF x 1)) + (dgF x 2))), (4, .int 2), (0, .int x), (1, .int n), (2, .int 0)]) hx hb dX11_puts0_39 rfl hl (by decide) rfl (fun ls hl => ?_)
                    refine lv_iinc (v := 3) (lv' := [(4, .int 3), (3, .int (((0 + (dgF x 0)) + (dgF x 1)) + (dgF x 2))), (0, .int x), (1, .int n), (2, .int 0)]) hx hb dX11_puts0_40 hl (k := 1) rfl (by decide) (by decide) rfl (fun ls hl => ?_)
                    refine lv_goto (tgt := 5) hx hb dX11_puts0_43 (by decide) ?_
                    refine lv_iload hx hb dX11_puts0_5 (lv_at hl 0 rfl) ?_
                    refine lv_iconst (v := 3) hx hb dX11_puts0_7 (by decide) ?_
                    refine lv_icmp_ge (tgt := 46) hx hb dX11_puts0_8 (by decide) (fun c_28 => ?_) (fun c_28 => ?_)
                    · refine lv_iload_n hx hb dX11_puts0_46 rfl (lv_at hl 1 rfl) ?_
                      refine lv_iload_n hx hb dX11_puts0_47 rfl (lv_at hl 3 rfl) ?_
                      refine lv_icmp_eq (tgt := 55) hx hb dX11_puts0_48 (by decide) (fun c_29 => ?_) (fun c_29 => ?_)
                      · refine lv_iconst (v := 1) hx hb dX11_puts0_55 (by decide) ?_
                        refine lv_goto (tgt := 60) hx hb dX11_puts0_56 (by decide) ?_
                        exact he_rz hQ hx hb hr hlk hP hD hS dX11_puts0_60 (Nat.le_of_ble_eq_true rfl) (Nat.le_of_ble_eq_true rfl) rfl (()) (rfl) (⟨Or.inr rfl, fun _ => rfl⟩)
                      · refine lv_iload_n hx hb dX11_puts0_51 rfl (lv_at hl 4 rfl) ?_
                        refine lv_if_ne (tgt := 59) hx hb dX11_puts0_52 (by decide) (fun c_30 => ?_) (fun c_30 => ?_)
                        · exact absurd (by decide) c_30
                        · refine lv_iconst (v := 1) hx hb dX11_puts0_55 (by decide) ?_
                          refine lv_goto (tgt := 60) hx hb dX11_puts0_56 (by decide) ?_
                          exact he_rz hQ hx hb hr hlk hP hD hS dX11_puts0_60 (Nat.le_of_ble_eq_true rfl) (Nat.le_of_ble_eq_true rfl) rfl (()) (rfl) (⟨Or.inr rfl, fun _ => rfl⟩)
                    · exact absurd (by decide) c_28
                  · refine lv_iconst (v := 0) hx hb dX11_puts0_29 (by decide) ?_
                    exact he_rz hQ hx hb hr hlk hP hD hS dX11_puts0_30 (Nat.le_of_ble_eq_true rfl) (Nat.le_of_ble_eq_true rfl) rfl (()) (rfl) (⟨Or.inl rfl, fun h9 => absurd (by rw [h9]; decide) c_24⟩)
            · refine lv_iconst (v := 0) hx hb dX11_puts0_29 (by decide) ?_
              exact he_rz hQ hx hb hr hlk hP hD hS dX11_puts0_30 (Nat.le_of_ble_eq_true rfl) (Nat.le_of_ble_eq_true rfl) rfl (()) (rfl) (⟨Or.inl rfl, fun h9 => absurd (by rw [h9]; decide) c_15⟩)
      · refine lv_iconst (v := 0) hx hb dX11_puts0_29 (by decide) ?_
        exact he_rz hQ hx hb hr hlk hP hD hS dX11_puts0_30 (Nat.le_of_ble_eq_true rfl) (Nat.le_of_ble_eq_true rfl) rfl (()) (rfl) (⟨Or.inl rfl, fun h9 => absurd (by rw [h9]; decide) c_6⟩)
set_option maxHeartbeats 4000000 in
set_option maxRecDepth 100000 in
theorem c_X11_falls0 (l : Launch) (g : he_G) (m0 : Nat) (fd : Nat) (rfm : Nat) (rt_ : Nat) (to_ : Nat) (rw_ : Nat) (wa : Nat) (rk : Nat) (rb : Nat) (cn : Nat) (br : Nat) (sm : Nat) (as_ : Nat) (go : Nat) (sh_ : Nat) (ki : Nat) (tg : Nat) (of_ : Nat) (kp : Nat) (rs : Nat) (ta : Int32) (sz_ : Int32) (pl : Int32) (at_ : Int32) (fa : Int32) (fw : Int32) (cs : Int32) (ct : Int32) (ir : Int32) (oa : Int32) (ob : Int32) (th : Int32) (ig : Int32) (sp_ : Int32) (sf : Int32) (tw : Int32) (x : Int32) (y : Int32)  : he_I l yX11_falls wsX11_falls 0 0 0 0 g [.ref m0, .int x, .int y, .int 0] [(m0, .inr (10, [.int tw, .int ta, .int sz_, .int pl, .int at_, .int fa, .int fw, .int cs, .ref fd, .ref rfm, .ref rt_, .ref to_, .ref rw_, .ref wa, .int ct, .ref rk, .ref rb, .ref cn, .ref br, .ref sm, .ref as_, .ref go, .ref sh_, .int ir, .int oa, .int ob, .int th, .int ig, .int sp_, .ref ki, .ref tg, .ref of_, .ref kp, .int sf, .ref rs]))] (fun (r : Int32) (u : Unit) => r = 0) (fun (u : Unit) => [(m0, .inr (10, [.int tw, .int ta, .int sz_, .int pl, .int at_, .int fa, .int fw, .int cs, .ref fd, .ref rfm, .ref rt_, .ref to_, .ref rw_, .ref wa, .int ct, .ref rk, .ref rb, .ref cn, .ref br, .ref sm, .ref as_, .ref go, .ref sh_, .int ir, .int oa, .int ob, .int th, .int ig, .int sp_, .ref ki, .ref tg, .ref of_, .ref kp, .int sf, .ref rs]))]) := by
  refine he_begin (l := l) (g := g) (y := yX11_falls) (wl := wsX11_falls) (fr := 0) (lo := 0) (mc := 0) (ms := 0) (av := [.ref m0, .int x, .int y, .int 0]) (ws := [(m0, .inr (10, [.int tw, .int ta, .int sz_, .int pl, .int at_, .int fa, .int fw, .int cs, .ref fd, .ref rfm, .ref rt_, .ref to_, .ref rw_, .ref wa, .int ct, .ref rk, .ref rb, .ref cn, .ref br, .ref sm, .ref as_, .ref go, .ref sh_, .int ir, .int oa, .int ob, .int th, .int ig, .int sp_, .ref ki, .ref tg, .ref of_, .ref kp, .int sf, .ref rs]))]) (cc := cX11_falls) (maxL := 6) (ret := (some .int)) (fun A => va_Qi (fun (r : Int32) (u : Unit) => r = 0) (fun u t => he_post g A ((fun (u : Unit) => [(m0, .inr (10, [.int tw, .int ta, .int sz_, .int pl, .int at_, .int fa, .int fw, .int cs, .ref fd, .ref rfm, .ref rt_, .ref to_, .ref rw_, .ref wa, .int ct, .ref rk, .ref rb, .ref cn, .ref br, .ref sm, .ref as_, .ref go, .ref sh_, .int ir, .int oa, .int ob, .int th, .int ig, .int sp_, .ref ki, .ref tg, .ref of_, .ref kp, .int sf, .ref rs]))]) u) t) A) (by decide) rfl (Nat.le_of_ble_eq_true rfl) ?_
  intro p e s m args below meth c A ls H locs Q hQ hB
  obtain ⟨hx, hb, hr, hml, hown, hts, hlk, hin, hP, hK, hD, hS, hA, hE, hl⟩ := hB
  have hl : lv_has ls 6 [(0, .ref m0), (1, .int x), (2, .int y), (3, .int 0)] := hl
  refine lv_iconst (v := 0) hx hb dX11_falls_0 (by decide) ?_
  refine lv_istore (lv' := [(4, .int 0), (0, .ref m0), (1, .int x), (2, .int y), (3, .int 0)]) hx hb dX11_falls_1 hl (by decide) rfl (fun ls hl => ?_)
  refine lv_iconst (v := 0) hx hb dX11_falls_3 (by decide) ?_
  refine lv_istore (lv' := [(5, .int 0), (4, .int 0), (0, .ref m0), (1, .int x), (2, .int y), (3, .int 0)]) hx hb dX11_falls_4 hl (by decide) rfl (fun ls hl => ?_)
  refine lv_iload hx hb dX11_falls_6 (lv_at hl 0 rfl) ?_
  refine lv_iconst (v := 3) hx hb dX11_falls_8 (by decide) ?_
  refine lv_icmp_ge (tgt := 70) hx hb dX11_falls_9 (by decide) (fun c_1 => ?_) (fun c_1 => ?_)
  · exact absurd c_1 (by decide)
  · refine lv_iload_n hx hb dX11_falls_12 rfl (lv_at hl 5 rfl) ?_
    refine lv_iload hx hb dX11_falls_13 (lv_at hl 0 rfl) ?_
    refine lv_ishr hx hb dX11_falls_15 ?_
    refine he_top (0) (by decide) ?_
    refine lv_iconst (v := 1) hx hb dX11_falls_16 (by decide) ?_
    refine lv_iand hx hb dX11_falls_17 ?_
    refine he_top (0) (by decide) ?_
    refine lv_iconst (v := 1) hx hb dX11_falls_18 (by decide) ?_
    refine lv_icmp_ne (tgt := 64) hx hb dX11_falls_19 (by decide) (fun c_2 => ?_) (fun c_2 => ?_)
    · refine lv_iinc (v := 1) (lv' := [(5, .int 1), (4, .int 0), (0, .ref m0), (1, .int x), (2, .int y), (3, .int 0)]) hx hb dX11_falls_64 hl (k := 0) rfl (by decide) (by decide) rfl (fun ls hl => ?_)
      refine lv_goto (tgt := 6) hx hb dX11_falls_67 (by decide) ?_
      refine lv_iload hx hb dX11_falls_6 (lv_at hl 0 rfl) ?_
      refine lv_iconst (v := 3) hx hb dX11_falls_8 (by decide) ?_
      refine lv_icmp_ge (tgt := 70) hx hb dX11_falls_9 (by decide) (fun c_3 => ?_) (fun c_3 => ?_)
      · exact absurd c_3 (by decide)
      · refine lv_iload_n hx hb dX11_falls_12 rfl (lv_at hl 5 rfl) ?_
        refine lv_iload hx hb dX11_falls_13 (lv_at hl 0 rfl) ?_
        refine lv_ishr hx hb dX11_falls_15 ?_
        refine he_top (0) (by decide) ?_
        refine lv_iconst (v := 1) hx hb dX11_falls_16 (by decide) ?_
        refine lv_iand hx hb dX11_falls_17 ?_
        refine he_top (0) (by decide) ?_
        refine lv_iconst (v := 1) hx hb dX11_falls_18 (by decide) ?_
        refine lv_icmp_ne (tgt := 64) hx hb dX11_falls_19 (by decide) (fun c_4 => ?_) (fun c_4 => ?_)
        · refine lv_iinc (v := 2) (lv' := [(5, .int 2), (4, .int 0), (0, .ref m0), (1, .int x), (2, .int y), (3, .int 0)]) hx hb dX11_falls_64 hl (k := 0) rfl (by decide) (by decide) rfl (fun ls hl => ?_)
          refine lv_goto (tgt := 6) hx hb dX11_falls_67 (by decide) ?_
          refine lv_iload hx hb dX11_falls_6 (lv_at hl 0 rfl) ?_
          refine lv_iconst (v := 3) hx hb dX11_falls_8 (by decide) ?_
          refine lv_icmp_ge (tgt := 70) hx hb dX11_falls_9 (by decide) (fun c_5 => ?_) (fun c_5 => ?_)
          · exact absurd c_5 (by decide)
          · refine lv_iload_n hx hb dX11_falls_12 rfl (lv_at hl 5 rfl) ?_
            refine lv_iload hx hb dX11_falls_13 (lv_at hl 0 rfl) ?_
            refine lv_ishr hx hb dX11_falls_15 ?_
            refine he_top (0) (by decide) ?_
            refine lv_iconst (v := 1) hx hb dX11_falls_16 (by decide) ?_
            refine lv_iand hx hb dX11_falls_17 ?_
            refine he_top (0) (by decide) ?_
            refine lv_iconst (v := 1) hx hb dX11_falls_18 (by decide) ?_
            refine lv_icmp_ne (tgt := 64) hx hb dX11_falls_19 (by decide) (fun c_6 => ?_) (fun c_6 => ?_)
            · refine lv_iinc (v := 3) (lv' := [(5, .int 3), (4, .int 0), (0, .ref m0), (1, .int x), (2, .int y), (3, .int 0)]) hx hb dX11_falls_64 hl (k := 0) rfl (by decide) (by decide) rfl (fun ls hl => ?_)
              refine lv_goto (tgt := 6) hx hb dX11_falls_67 (by decide) ?_
              refine lv_iload hx hb dX11_falls_6 (lv_at hl 0 rfl) ?_
              refine lv_iconst (v := 3) hx hb dX11_falls_8 (by decide) ?_
              refine lv_icmp_ge (tgt := 70) hx hb dX11_falls_9 (by decide) (fun c_7 => ?_) (fun c_7 => ?_)
              · refine lv_iload hx hb dX11_falls_70 (lv_at hl 1 rfl) ?_
                exact he_ri hQ hx hb hr hlk hP hD hS dX11_falls_72 (Nat.le_of_ble_eq_true rfl) (Nat.le_of_ble_eq_true rfl) (()) (rfl) (rfl)
              · exact absurd (by decide) c_7
            · exact absurd c_6 (by decide)
        · exact absurd c_4 (by decide)
    · exact absurd c_2 (by decide)
set_option maxHeartbeats 4000000 in
set_option maxRecDepth 100000 in
theorem c_X11_firstWalls0 (l : Launch) (g : he_G) (m0 : Nat) (fd : Nat) (rfm : Nat) (rt_ : Nat) (to_ : Nat) (rw_ : Nat) (wa : Nat) (rk : Nat) (rb : Nat) (cn : Nat) (br : Nat) (sm : Nat) (as_ : Nat) (go : Nat) (sh_ : Nat) (ki : Nat) (tg : Nat) (of_ : Nat) (kp : Nat) (rs : Nat) (ta : Int32) (sz_ : Int32) (pl : Int32) (at_ : Int32) (fa : Int32) (fw : Int32) (cs : Int32) (ct : Int32) (ir : Int32) (oa : Int32) (ob : Int32) (th : Int32) (ig : Int32) (sp_ : Int32) (sf : Int32) (tw : Int32) (tl : Nat → Int32) (ht0 : tl 0 = 0) : he_I l yX11_firstWalls wsX11_firstWalls 1 21 0 0 g [.ref m0] [(m0, .inr (10, [.int tw, .int ta, .int sz_, .int pl, .int at_, .int fa, .int fw, .int cs, .ref fd, .ref rfm, .ref rt_, .ref to_, .ref rw_, .ref wa, .int ct, .ref rk, .ref rb, .ref cn, .ref br, .ref sm, .ref as_, .ref go, .ref sh_, .int ir, .int oa, .int ob, .int th, .int ig, .int sp_, .ref ki, .ref tg, .ref of_, .ref kp, .int sf, .ref rs])), (to_, .inl (g.2 1, 25, .inl tl))] (fun (r : Int32) (u : Unit) => r = 0) (fun (u : Unit) => [(m0, .inr (10, [.int tw, .int ta, .int sz_, .int pl, .int at_, .int fa, .int fw, .int cs, .ref fd, .ref rfm, .ref rt_, .ref to_, .ref rw_, .ref wa, .int ct, .ref rk, .ref rb, .ref cn, .ref br, .ref sm, .ref as_, .ref go, .ref sh_, .int ir, .int oa, .int ob, .int th, .int ig, .int sp_, .ref ki, .ref tg, .ref of_, .ref kp, .int sf, .ref rs])), (to_, .inl (g.2 1, 25, .inl tl))]) := by
  refine he_begin (l := l) (g := g) (y := yX11_firstWalls) (wl := wsX11_firstWalls) (fr := 1) (lo := 21) (mc := 0) (ms := 0) (av := [.ref m0]) (ws := [(m0, .inr (10, [.int tw, .int ta, .int sz_, .int pl, .int at_, .int fa, .int fw, .int cs, .ref fd, .ref rfm, .ref rt_, .ref to_, .ref rw_, .ref wa, .int ct, .ref rk, .ref rb, .ref cn, .ref br, .ref sm, .ref as_, .ref go, .ref sh_, .int ir, .int oa, .int ob, .int th, .int ig, .int sp_, .ref ki, .ref tg, .ref of_, .ref kp, .int sf, .ref rs])), (to_, .inl (g.2 1, 25, .inl tl))]) (cc := cX11_firstWalls) (maxL := 1) (ret := (some .int)) (fun A => va_Qi (fun (r : Int32) (u : Unit) => r = 0) (fun u t => he_post g A ((fun (u : Unit) => [(m0, .inr (10, [.int tw, .int ta, .int sz_, .int pl, .int at_, .int fa, .int fw, .int cs, .ref fd, .ref rfm, .ref rt_, .ref to_, .ref rw_, .ref wa, .int ct, .ref rk, .ref rb, .ref cn, .ref br, .ref sm, .ref as_, .ref go, .ref sh_, .int ir, .int oa, .int ob, .int th, .int ig, .int sp_, .ref ki, .ref tg, .ref of_, .ref kp, .int sf, .ref rs])), (to_, .inl (g.2 1, 25, .inl tl))]) u) t) A) (by decide) rfl (Nat.le_of_ble_eq_true rfl) ?_
  intro p e s m args below meth c A ls H locs Q hQ hB
  obtain ⟨hx, hb, hr, hml, hown, hts, hlk, hin, hP, hK, hD, hS, hA, hE, hl⟩ := hB
  have hl : lv_has ls 1 [(0, .ref m0)] := hl
  have f23 := hts (.fieldLink RX11 23 "HiredEnemyModel" "told" "[I") (by decide +kernel)
  have inX11 : ∀ w ∈ wsX110, w ∈ wsX11_firstWalls := by decide +kernel
  refine lv_iconst (v := 1) hx hb dX11_firstWalls_0 (by decide) ?_
  refine lv_iconst (v := 3) hx hb dX11_firstWalls_1 (by decide) ?_
  refine lv_aload_n hx hb dX11_firstWalls_2 rfl (lv_at hl 0 rfl) ?_
  refine va_get (v := .ref to_) (T := TX11) (N := 35) hx hb hts inX11 hown hK hP 0 rfl rfl 11 (by decide) f23 (fun _ h9 => h9) rfl dX11_firstWalls_3 ?_
  refine lv_iconst (v := 0) hx hb dX11_firstWalls_6 (by decide) ?_
  refine he_iald hx hb hK hP 1 rfl (0) (by decide) (by decide) (by first | decide | assumption) (0) ht0 dX11_firstWalls_7 ?_
  refine he_ci (wc := []) (wr := [(m0, .inr (10, [.int tw, .int ta, .int sz_, .int pl, .int at_, .int fa, .int fw, .int cs, .ref fd, .ref rfm, .ref rt_, .ref to_, .ref rw_, .ref wa, .int ct, .ref rk, .ref rb, .ref cn, .ref br, .ref sm, .ref as_, .ref go, .ref sh_, .int ir, .int oa, .int ob, .int th, .int ig, .int sp_, .ref ki, .ref tg, .ref of_, .ref kp, .int sf, .ref rs])), (to_, .inl (g.2 1, 25, .inl tl))]) (va_runS (As := [.int 3, .int 0]) (rest := [.int 1]) ⟨hx, hb, hml, hown, hts⟩ (c_X11_less l g 3 0 H.size) (va_cwS 2 hts gX11_firstWalls_X11_less rfl rfl rfl (by decide +kernel) ⟨Nat.le_of_ble_eq_true rfl, Nat.le_of_ble_eq_true rfl⟩) (he_preS (wc := []) hK hP hD hS hA hE [] rfl rfl) rfl rfl hl.1 rfl (lv_room (Nat.le_of_ble_eq_true rfl)) dX11_firstWalls_8 ⟨(Nat.le_of_ble_eq_true rfl), (Nat.le_of_ble_eq_true rfl)⟩) hP hD hS hA [] [0, 1] rfl rfl rfl (by decide) (fun r_1 u_2 H locs h_3 hP hD hS => ?_)
  subst h_3
  have hP : va_P g.1 vwCl [(m0, .inr (10, [.int tw, .int ta, .int sz_, .int pl, .int at_, .int fa, .int fw, .int cs, .ref fd, .ref rfm, .ref rt_, .ref to_, .ref rw_, .ref wa, .int ct, .ref rk, .ref rb, .ref cn, .ref br, .ref sm, .ref as_, .ref go, .ref sh_, .int ir, .int oa, .int ob, .int th, .int ig, .int sp_, .ref ki, .ref tg, .ref of_, .ref kp, .int sf, .ref rs])), (to_, .inl (g.2 1, 25, .inl tl))] H := hP
  have hD : va_D A [(m0, .inr (10, [.int tw, .int ta, .int sz_, .int pl, .int at_, .int fa, .int fw, .int cs, .ref fd, .ref rfm, .ref rt_, .ref to_, .ref rw_, .ref wa, .int ct, .ref rk, .ref rb, .ref cn, .ref br, .ref sm, .ref as_, .ref go, .ref sh_, .int ir, .int oa, .int ob, .int th, .int ig, .int sp_, .ref ki, .ref tg, .ref of_, .ref kp, .int sf, .ref rs])), (to_, .inl (g.2 1, 25, .inl tl))] := hD
  refine he_top (0) (by decide) ?_
  refine lv_ishl hx hb dX11_firstWalls_11 ?_
  refine he_top (1) (by decide) ?_
  refine lv_iconst (v := 1) hx hb dX11_firstWalls_12 (by decide) ?_
  refine lv_isub hx hb dX11_firstWalls_13 ?_
  refine he_top (0) (by decide) ?_
  exact he_ri hQ hx hb hr hlk hP hD hS dX11_firstWalls_14 (Nat.le_of_ble_eq_true rfl) (Nat.le_of_ble_eq_true rfl) (()) (rfl) (rfl)
set_option maxHeartbeats 4000000 in
set_option maxRecDepth 100000 in
theorem c_X11_safeBy0 (l : Launch) (g : he_G) (m0 : Nat) (fd : Nat) (rfm : Nat) (rt_ : Nat) (to_ : Nat) (rw_ : Nat) (wa : Nat) (rk : Nat) (rb : Nat) (cn : Nat) (br : Nat) (sm : Nat) (as_ : Nat) (go : Nat) (sh_ : Nat) (ki : Nat) (tg : Nat) (of_ : Nat) (kp : Nat) (rs : Nat) (ta : Int32) (sz_ : Int32) (pl : Int32) (at_ : Int32) (fa : Int32) (fw : Int32) (cs : Int32) (ct : Int32) (ir : Int32) (oa : Int32) (ob : Int32) (th : Int32) (ig : Int32) (sp_ : Int32) (sf : Int32) (tw : Int32) (x : Int32) (y : Int32)  : he_I l yX11_safeBy wsX11_safeBy 2 45 0 0 g [.ref m0, .int x, .int y, .int 0] [(m0, .inr (10, [.int tw, .int ta, .int sz_, .int pl, .int at_, .int fa, .int fw, .int cs, .ref fd, .ref rfm, .ref rt_, .ref to_, .ref rw_, .ref wa, .int ct, .ref rk, .ref rb, .ref cn, .ref br, .ref sm, .ref as_, .ref go, .ref sh_, .int ir, .int oa, .int ob, .int th, .int ig, .int sp_, .ref ki, .ref tg, .ref of_, .ref kp, .int sf, .ref rs]))] (fun (r : Int32) (u : Int32) => r = 0) (fun (u : Int32) => [(m0, .inr (10, [.int tw, .int ta, .int sz_, .int pl, .int at_, .int fa, .int fw, .int cs, .ref fd, .ref rfm, .ref rt_, .ref to_, .ref rw_, .ref wa, .int ct, .ref rk, .ref rb, .ref cn, .ref br, .ref sm, .ref as_, .ref go, .ref sh_, .int ir, .int oa, .int ob, .int th, .int ig, .int sp_, .ref ki, .ref tg, .ref of_, .ref kp, .int u, .ref rs]))]) := by
  refine he_begin (l := l) (g := g) (y := yX11_safeBy) (wl := wsX11_safeBy) (fr := 2) (lo := 45) (mc := 0) (ms := 0) (av := [.ref m0, .int x, .int y, .int 0]) (ws := [(m0, .inr (10, [.int tw, .int ta, .int sz_, .int pl, .int at_, .int fa, .int fw, .int cs, .ref fd, .ref rfm, .ref rt_, .ref to_, .ref rw_, .ref wa, .int ct, .ref rk, .ref rb, .ref cn, .ref br, .ref sm, .ref as_, .ref go, .ref sh_, .int ir, .int oa, .int ob, .int th, .int ig, .int sp_, .ref ki, .ref tg, .ref of_, .ref kp, .int sf, .ref rs]))]) (cc := cX11_safeBy) (maxL := 8) (ret := (some .int)) (fun A => va_Qi (fun (r : Int32) (u : Int32) => r = 0) (fun u t => he_post g A ((fun (u : Int32) => [(m0, .inr (10, [.int tw, .int ta, .int sz_, .int pl, .int at_, .int fa, .int fw, .int cs, .ref fd, .ref rfm, .ref rt_, .ref to_, .ref rw_, .ref wa, .int ct, .ref rk, .ref rb, .ref cn, .ref br, .ref sm, .ref as_, .ref go, .ref sh_, .int ir, .int oa, .int ob, .int th, .int ig, .int sp_, .ref ki, .ref tg, .ref of_, .ref kp, .int u, .ref rs]))]) u) t) A) (by decide) rfl (Nat.le_of_ble_eq_true rfl) ?_
  intro p e s m args below meth c A ls H locs Q hQ hB
  obtain ⟨hx, hb, hr, hml, hown, hts, hlk, hin, hP, hK, hD, hS, hA, hE, hl⟩ := hB
  have hl : lv_has ls 8 [(0, .ref m0), (1, .int x), (2, .int y), (3, .int 0)] := hl
  have f244 := hts (.fieldLink RX11 244 "HiredEnemyModel" "safeRow" "I") (by decide +kernel)
  have inX11 : ∀ w ∈ wsX110, w ∈ wsX11_safeBy := by decide +kernel
  refine lv_iconst (v := (-1)) hx hb dX11_safeBy_0 (by decide) ?_
  refine lv_istore (lv' := [(4, .int (-1)), (0, .ref m0), (1, .int x), (2, .int y), (3, .int 0)]) hx hb dX11_safeBy_1 hl (by decide) rfl (fun ls hl => ?_)
  refine lv_aload_n hx hb dX11_safeBy_3 rfl (lv_at hl 1 rfl) ?_
  refine lv_iconst (v := 0) hx hb dX11_safeBy_4 (by decide) ?_
  refine va_put (v := .int 0) (ty := .int) (T := TX11) (N := 35) hx hb hts inX11 tyX11 tyX11_ok nmX11 hown hK hP hD hS 0 rfl rfl 33 (by decide) f244 (fun _ h9 => h9) rfl (by decide +kernel) rfl rfl (Nat.le_of_ble_eq_true rfl) dX11_safeBy_5 (fun H locs hP hD hS => ?_)
  have hP : va_P g.1 vwCl [(m0, .inr (10, [.int tw, .int ta, .int sz_, .int pl, .int at_, .int fa, .int fw, .int cs, .ref fd, .ref rfm, .ref rt_, .ref to_, .ref rw_, .ref wa, .int ct, .ref rk, .ref rb, .ref cn, .ref br, .ref sm, .ref as_, .ref go, .ref sh_, .int ir, .int oa, .int ob, .int th, .int ig, .int sp_, .ref ki, .ref tg, .ref of_, .ref kp, .int 0, .ref rs]))] H := hP
  have hD : va_D A [(m0, .inr (10, [.int tw, .int ta, .int sz_, .int pl, .int at_, .int fa, .int fw, .int cs, .ref fd, .ref rfm, .ref rt_, .ref to_, .ref rw_, .ref wa, .int ct, .ref rk, .ref rb, .ref cn, .ref br, .ref sm, .ref as_, .ref go, .ref sh_, .int ir, .int oa, .int ob, .int th, .int ig, .int sp_, .ref ki, .ref tg, .ref of_, .ref kp, .int 0, .ref rs]))] := hD
  refine lv_iconst (v := 0) hx hb dX11_safeBy_8 (by decide) ?_
  refine lv_istore (lv' := [(5, .int 0), (4, .int (-1)), (0, .ref m0), (1, .int x), (2, .int y), (3, .int 0)]) hx hb dX11_safeBy_9 hl (by decide) rfl (fun ls hl => ?_)
  have loop11 : ∀ (n9 : Nat) (j : Nat) (be : Int32) (sr : Int32), 343 - j < n9 → (j ≤ 343) → ((j = 0 ∧ be = -1) ∨ be = 0) → ∀ (H : Heap) (locs : List Loc) (ls : Array Slot), va_P g.1 vwCl [(m0, .inr (10, [.int tw, .int ta, .int sz_, .int pl, .int at_, .int fa, .int fw, .int cs, .ref fd, .ref rfm, .ref rt_, .ref to_, .ref rw_, .ref wa, .int ct, .ref rk, .ref rb, .ref cn, .ref br, .ref sm, .ref as_, .ref go, .ref sh_, .int ir, .int oa, .int ob, .int th, .int ig, .int sp_, .ref ki, .ref tg, .ref of_, .ref kp, .int sr, .ref rs]))] H → va_D A [(m0, .inr (10, [.int tw, .int ta, .int sz_, .int pl, .int at_, .int fa, .int fw, .int cs, .ref fd, .ref rfm, .ref rt_, .ref to_, .ref rw_, .ref wa, .int ct, .ref rk, .ref rb, .ref cn, .ref br, .ref sm, .ref as_, .ref go, .ref sh_, .int ir, .int oa, .int ob, .int th, .int ig, .int sp_, .ref ki, .ref tg, .ref of_, .ref kp, .int sr, .ref rs]))] → va_S A s.heap H locs → lv_has ls 8 [(0, .ref m0), (1, .int x), (2, .int y), (3, .int 0), (4, .int be), (5, .int (nI j))] → W p l e (he_room 2 45 0 0) s m args below meth c H locs 0 0 Q (F0 m 11 ls []) := by
    intro n9
    induction n9 with
    | zero => intro j be sr hm9; exact absurd hm9 (Nat.not_lt_zero _)
    | succ n9 ih11 =>
      intro j be sr hm9 hj hbe H locs ls hP hD hS hl
      refine lv_iload hx hb dX11_safeBy_11 (lv_at hl 5 rfl) ?_
      refine lv_sipush (v := 343) hx hb dX11_safeBy_13 (by decide) ?_
      refine lv_icmp_ge (tgt := 124) hx hb dX11_safeBy_16 (by decide) (fun c_1 => ?_) (fun c_1 => ?_)
      · have k_2 : 343 ≤ j := (he_cle (a := 343) (b := j) (by decide) rfl (by omega) (by omega)).mp c_1
        refine lv_iload hx hb dX11_safeBy_124 (lv_at hl 4 rfl) ?_
        exact he_ri hQ hx hb hr hlk hP hD hS dX11_safeBy_126 (Nat.le_of_ble_eq_true rfl) (Nat.le_of_ble_eq_true rfl) (sr) (rfl) ((by rcases hbe with ⟨h1, -⟩ | h1 <;> first | omega | exact h1))
      · have k_3 : ¬ (343 ≤ j) := fun h9 => c_1 ((he_cle (a := 343) (b := j) (by decide) rfl (by omega) (by omega)).mpr h9)
        refine lv_iload hx hb dX11_safeBy_19 (lv_at hl 5 rfl) ?_
        refine lv_iload_n hx hb dX11_safeBy_21 rfl (lv_at hl 2 rfl) ?_
        refine lv_iload_n hx hb dX11_safeBy_22 rfl (lv_at hl 3 rfl) ?_
        refine he_ci (wc := []) (wr := [(m0, .inr (10, [.int tw, .int ta, .int sz_, .int pl, .int at_, .int fa, .int fw, .int cs, .ref fd, .ref rfm, .ref rt_, .ref to_, .ref rw_, .ref wa, .int ct, .ref rk, .ref rb, .ref cn, .ref br, .ref sm, .ref as_, .ref go, .ref sh_, .int ir, .int oa, .int ob, .int th, .int ig, .int sp_, .ref ki, .ref tg, .ref of_, .ref kp, .int sr, .ref rs]))]) (va_runS (As := [.int (nI j), .int y, .int 0]) (rest := []) ⟨hx, hb, hml, hown, hts⟩ (c_X11_puts00 l g (nI j) y H.size) (va_cwS 3 hts gX11_safeBy_X11_puts0 rfl rfl rfl (by decide +kernel) ⟨Nat.le_of_ble_eq_true rfl, Nat.le_of_ble_eq_true rfl⟩) (he_preS (wc := []) hK hP hD hS hA hE [] rfl rfl) rfl rfl hl.1 rfl (lv_room (Nat.le_of_ble_eq_true rfl)) dX11_safeBy_23 ⟨(Nat.le_of_ble_eq_true rfl), (Nat.le_of_ble_eq_true rfl)⟩) hP hD hS hA [] [0] rfl rfl rfl (by decide) (fun r_4 u_5 H locs h_6 hP hD hS => ?_)
        try dsimp only at h_6
        obtain ⟨hf_7, hf_8⟩ := h_6
        have hP : va_P g.1 vwCl [(m0, .inr (10, [.int tw, .int ta, .int sz_, .int pl, .int at_, .int fa, .int fw, .int cs, .ref fd, .ref rfm, .ref rt_, .ref to_, .ref rw_, .ref wa, .int ct, .ref rk, .ref rb, .ref cn, .ref br, .ref sm, .ref as_, .ref go, .ref sh_, .int ir, .int oa, .int ob, .int th, .int ig, .int sp_, .ref ki, .ref tg, .ref of_, .ref kp, .int sr, .ref rs]))] H := hP
        have hD : va_D A [(m0, .inr (10, [.int tw, .int ta, .int sz_, .int pl, .int at_, .int fa, .int fw, .int cs, .ref fd, .ref rfm, .ref rt_, .ref to_, .ref rw_, .ref wa, .int ct, .ref rk, .ref rb, .ref cn, .ref br, .ref sm, .ref as_, .ref go, .ref sh_, .int ir, .int oa, .int ob, .int th, .int ig, .int sp_, .ref ki, .ref tg, .ref of_, .ref kp, .int sr, .ref rs]))] := hD
        have HF23 := And.intro hf_7 hf_8
        refine lv_if_ne (tgt := 32) hx hb dX11_safeBy_26 (by decide) (fun c_9 => ?_) (fun c_9 => ?_)
        · refine lv_iconst (v := 0) hx hb dX11_safeBy_32 (by decide) ?_
          refine lv_istore (lv' := [(6, .int 0), (0, .ref m0), (1, .int x), (2, .int y), (3, .int 0), (4, .int be), (5, .int (nI j))]) hx hb dX11_safeBy_33 hl (by decide) rfl (fun ls hl => ?_)
          refine lv_iconst (v := 0) hx hb dX11_safeBy_35 (by decide) ?_
          refine lv_istore (lv' := [(7, .int 0), (6, .int 0), (0, .ref m0), (1, .int x), (2, .int y), (3, .int 0), (4, .int be), (5, .int (nI j))]) hx hb dX11_safeBy_36 hl (by decide) rfl (fun ls hl => ?_)
          have loop38 : ∀ (n9 : Nat) (i : Nat), 343 - i < n9 → (i ≤ 343) → ∀ (H : Heap) (locs : List Loc) (ls : Array Slot), va_P g.1 vwCl [(m0, .inr (10, [.int tw, .int ta, .int sz_, .int pl, .int at_, .int fa, .int fw, .int cs, .ref fd, .ref rfm, .ref rt_, .ref to_, .ref rw_, .ref wa, .int ct, .ref rk, .ref rb, .ref cn, .ref br, .ref sm, .ref as_, .ref go, .ref sh_, .int ir, .int oa, .int ob, .int th, .int ig, .int sp_, .ref ki, .ref tg, .ref of_, .ref kp, .int sr, .ref rs]))] H → va_D A [(m0, .inr (10, [.int tw, .int ta, .int sz_, .int pl, .int at_, .int fa, .int fw, .int cs, .ref fd, .ref rfm, .ref rt_, .ref to_, .ref rw_, .ref wa, .int ct, .ref rk, .ref rb, .ref cn, .ref br, .ref sm, .ref as_, .ref go, .ref sh_, .int ir, .int oa, .int ob, .int th, .int ig, .int sp_, .ref ki, .ref tg, .ref of_, .ref kp, .int sr, .ref rs]))] → va_S A s.heap H locs → lv_has ls 8 [(0, .ref m0), (1, .int x), (2, .int y), (3, .int 0), (4, .int be), (5, .int (nI j)), (6, .int 0), (7, .int (nI i))] → W p l e (he_room 2 45 0 0) s m args below meth c H locs 0 0 Q (F0 m 38 ls []) := by
            intro n9
            induction n9 with
            | zero => intro i hm9; exact absurd hm9 (Nat.not_lt_zero _)
            | succ n9 ih38 =>
              intro i hm9 hi H locs ls hP hD hS hl
              refine lv_iload hx hb dX11_safeBy_38 (lv_at hl 7 rfl) ?_
              refine lv_sipush (v := 343) hx hb dX11_safeBy_40 (by decide) ?_
              refine lv_icmp_ge (tgt := 92) hx hb dX11_safeBy_43 (by decide) (fun c_10 => ?_) (fun c_10 => ?_)
              · have k_11 : 343 ≤ i := (he_cle (a := 343) (b := i) (by decide) rfl (by omega) (by omega)).mp c_10
                refine lv_iload hx hb dX11_safeBy_92 (lv_at hl 4 rfl) ?_
                refine lv_iconst (v := (-1)) hx hb dX11_safeBy_94 (by decide) ?_
                refine lv_icmp_eq (tgt := 108) hx hb dX11_safeBy_95 (by decide) (fun c_12 => ?_) (fun c_12 => ?_)
                · refine lv_iload hx hb dX11_safeBy_108 (lv_at hl 6 rfl) ?_
                  refine lv_istore (lv' := [(4, .int 0), (0, .ref m0), (1, .int x), (2, .int y), (3, .int 0), (5, .int (nI j)), (6, .int 0), (7, .int (nI i))]) hx hb dX11_safeBy_110 hl (by decide) rfl (fun ls hl => ?_)
                  refine lv_aload_n hx hb dX11_safeBy_112 rfl (lv_at hl 1 rfl) ?_
                  refine lv_iload hx hb dX11_safeBy_113 (lv_at hl 5 rfl) ?_
                  refine va_put (v := .int (nI j)) (ty := .int) (T := TX11) (N := 35) hx hb hts inX11 tyX11 tyX11_ok nmX11 hown hK hP hD hS 0 rfl rfl 33 (by decide) f244 (fun _ h9 => h9) rfl (by decide +kernel) rfl rfl (Nat.le_of_ble_eq_true rfl) dX11_safeBy_115 (fun H locs hP hD hS => ?_)
                  have hP : va_P g.1 vwCl [(m0, .inr (10, [.int tw, .int ta, .int sz_, .int pl, .int at_, .int fa, .int fw, .int cs, .ref fd, .ref rfm, .ref rt_, .ref to_, .ref rw_, .ref wa, .int ct, .ref rk, .ref rb, .ref cn, .ref br, .ref sm, .ref as_, .ref go, .ref sh_, .int ir, .int oa, .int ob, .int th, .int ig, .int sp_, .ref ki, .ref tg, .ref of_, .ref kp, .int (nI j), .ref rs]))] H := hP
                  have hD : va_D A [(m0, .inr (10, [.int tw, .int ta, .int sz_, .int pl, .int at_, .int fa, .int fw, .int cs, .ref fd, .ref rfm, .ref rt_, .ref to_, .ref rw_, .ref wa, .int ct, .ref rk, .ref rb, .ref cn, .ref br, .ref sm, .ref as_, .ref go, .ref sh_, .int ir, .int oa, .int ob, .int th, .int ig, .int sp_, .ref ki, .ref tg, .ref of_, .ref kp, .int (nI j), .ref rs]))] := hD
                  refine lv_iinc (v := nI (j + 1)) (lv' := [(5, .int (nI (j + 1))), (4, .int 0), (0, .ref m0), (1, .int x), (2, .int y), (3, .int 0), (6, .int 0), (7, .int (nI i))]) hx hb dX11_safeBy_118 hl (k := 5) rfl (nI_1 j) (by decide) rfl (fun ls hl => ?_)
                  refine lv_goto (tgt := 11) hx hb dX11_safeBy_121 (by decide) ?_
                  exact ih11 (j + 1) 0 (nI j) (by omega) (by omega) (Or.inr rfl) _ _ _ hP hD hS (lv_sub hl [2, 3, 4, 5, 1, 0] rfl)
                · refine lv_iload hx hb dX11_safeBy_98 (lv_at hl 6 rfl) ?_
                  refine lv_iload hx hb dX11_safeBy_100 (lv_at hl 4 rfl) ?_
                  refine lv_icmp_lt (tgt := 108) hx hb dX11_safeBy_102 (by decide) (fun c_13 => ?_) (fun c_13 => ?_)
                  · refine lv_iload hx hb dX11_safeBy_108 (lv_at hl 6 rfl) ?_
                    refine lv_istore (lv' := [(4, .int 0), (0, .ref m0), (1, .int x), (2, .int y), (3, .int 0), (5, .int (nI j)), (6, .int 0), (7, .int (nI i))]) hx hb dX11_safeBy_110 hl (by decide) rfl (fun ls hl => ?_)
                    refine lv_aload_n hx hb dX11_safeBy_112 rfl (lv_at hl 1 rfl) ?_
                    refine lv_iload hx hb dX11_safeBy_113 (lv_at hl 5 rfl) ?_
                    refine va_put (v := .int (nI j)) (ty := .int) (T := TX11) (N := 35) hx hb hts inX11 tyX11 tyX11_ok nmX11 hown hK hP hD hS 0 rfl rfl 33 (by decide) f244 (fun _ h9 => h9) rfl (by decide +kernel) rfl rfl (Nat.le_of_ble_eq_true rfl) dX11_safeBy_115 (fun H locs hP hD hS => ?_)
                    have hP : va_P g.1 vwCl [(m0, .inr (10, [.int tw, .int ta, .int sz_, .int pl, .int at_, .int fa, .int fw, .int cs, .ref fd, .ref rfm, .ref rt_, .ref to_, .ref rw_, .ref wa, .int ct, .ref rk, .ref rb, .ref cn, .ref br, .ref sm, .ref as_, .ref go, .ref sh_, .int ir, .int oa, .int ob, .int th, .int ig, .int sp_, .ref ki, .ref tg, .ref of_, .ref kp, .int (nI j), .ref rs]))] H := hP
                    have hD : va_D A [(m0, .inr (10, [.int tw, .int ta, .int sz_, .int pl, .int at_, .int fa, .int fw, .int cs, .ref fd, .ref rfm, .ref rt_, .ref to_, .ref rw_, .ref wa, .int ct, .ref rk, .ref rb, .ref cn, .ref br, .ref sm, .ref as_, .ref go, .ref sh_, .int ir, .int oa, .int ob, .int th, .int ig, .int sp_, .ref ki, .ref tg, .ref of_, .ref kp, .int (nI j), .ref rs]))] := hD
                    refine lv_iinc (v := nI (j + 1)) (lv' := [(5, .int (nI (j + 1))), (4, .int 0), (0, .ref m0), (1, .int x), (2, .int y), (3, .int 0), (6, .int 0), (7, .int (nI i))]) hx hb dX11_safeBy_118 hl (k := 5) rfl (nI_1 j) (by decide) rfl (fun ls hl => ?_)
                    refine lv_goto (tgt := 11) hx hb dX11_safeBy_121 (by decide) ?_
                    exact ih11 (j + 1) 0 (nI j) (by omega) (by omega) (Or.inr rfl) _ _ _ hP hD hS (lv_sub hl [2, 3, 4, 5, 1, 0] rfl)
                  · refine lv_goto (tgt := 118) hx hb dX11_safeBy_105 (by decide) ?_
                    refine lv_iinc (v := nI (j + 1)) (lv' := [(5, .int (nI (j + 1))), (0, .ref m0), (1, .int x), (2, .int y), (3, .int 0), (4, .int be), (6, .int 0), (7, .int (nI i))]) hx hb dX11_safeBy_118 hl (k := 5) rfl (nI_1 j) (by decide) rfl (fun ls hl => ?_)
                    refine lv_goto (tgt := 11) hx hb dX11_safeBy_121 (by decide) ?_
                    exact ih11 (j + 1) be sr (by omega) (by omega) (by rcases hbe with ⟨h1, h2⟩ | h1 <;> first | exact Or.inr h1 | exact absurd h2 c_12) _ _ _ hP hD hS (lv_sub hl [1, 2, 3, 4, 5, 0] rfl)
              · have k_14 : ¬ (343 ≤ i) := fun h9 => c_10 ((he_cle (a := 343) (b := i) (by decide) rfl (by omega) (by omega)).mpr h9)
                refine lv_iload hx hb dX11_safeBy_46 (lv_at hl 7 rfl) ?_
                refine lv_iload_n hx hb dX11_safeBy_48 rfl (lv_at hl 1 rfl) ?_
                refine lv_iload_n hx hb dX11_safeBy_49 rfl (lv_at hl 3 rfl) ?_
                refine he_ci (wc := []) (wr := [(m0, .inr (10, [.int tw, .int ta, .int sz_, .int pl, .int at_, .int fa, .int fw, .int cs, .ref fd, .ref rfm, .ref rt_, .ref to_, .ref rw_, .ref wa, .int ct, .ref rk, .ref rb, .ref cn, .ref br, .ref sm, .ref as_, .ref go, .ref sh_, .int ir, .int oa, .int ob, .int th, .int ig, .int sp_, .ref ki, .ref tg, .ref of_, .ref kp, .int sr, .ref rs]))]) (va_runS (As := [.int (nI i), .int x, .int 0]) (rest := []) ⟨hx, hb, hml, hown, hts⟩ (c_X11_puts00 l g (nI i) x H.size) (va_cwS 3 hts gX11_safeBy_X11_puts0 rfl rfl rfl (by decide +kernel) ⟨Nat.le_of_ble_eq_true rfl, Nat.le_of_ble_eq_true rfl⟩) (he_preS (wc := []) hK hP hD hS hA hE [] rfl rfl) rfl rfl hl.1 rfl (lv_room (Nat.le_of_ble_eq_true rfl)) dX11_safeBy_50 ⟨(Nat.le_of_ble_eq_true rfl), (Nat.le_of_ble_eq_true rfl)⟩) hP hD hS hA [] [0] rfl rfl rfl (by decide) (fun r_15 u_16 H locs h_17 hP hD hS => ?_)
                try dsimp only at h_17
                obtain ⟨hf_18, hf_19⟩ := h_17
                have hP : va_P g.1 vwCl [(m0, .inr (10, [.int tw, .int ta, .int sz_, .int pl, .int at_, .int fa, .int fw, .int cs, .ref fd, .ref rfm, .ref rt_, .ref to_, .ref rw_, .ref wa, .int ct, .ref rk, .ref rb, .ref cn, .ref br, .ref sm, .ref as_, .ref go, .ref sh_, .int ir, .int oa, .int ob, .int th, .int ig, .int sp_, .ref ki, .ref tg, .ref of_, .ref kp, .int sr, .ref rs]))] H := hP
                have hD : va_D A [(m0, .inr (10, [.int tw, .int ta, .int sz_, .int pl, .int at_, .int fa, .int fw, .int cs, .ref fd, .ref rfm, .ref rt_, .ref to_, .ref rw_, .ref wa, .int ct, .ref rk, .ref rb, .ref cn, .ref br, .ref sm, .ref as_, .ref go, .ref sh_, .int ir, .int oa, .int ob, .int th, .int ig, .int sp_, .ref ki, .ref tg, .ref of_, .ref kp, .int sr, .ref rs]))] := hD
                refine lv_if_eq (tgt := 82) hx hb dX11_safeBy_53 (by decide) (fun c_20 => ?_) (fun c_20 => ?_)
                · refine lv_iload hx hb dX11_safeBy_82 (lv_at hl 6 rfl) ?_
                  refine lv_istore (lv' := [(6, .int 0), (0, .ref m0), (1, .int x), (2, .int y), (3, .int 0), (4, .int be), (5, .int (nI j)), (7, .int (nI i))]) hx hb dX11_safeBy_84 hl (by decide) rfl (fun ls hl => ?_)
                  refine lv_iinc (v := nI (i + 1)) (lv' := [(7, .int (nI (i + 1))), (6, .int 0), (0, .ref m0), (1, .int x), (2, .int y), (3, .int 0), (4, .int be), (5, .int (nI j))]) hx hb dX11_safeBy_86 hl (k := 7) rfl (nI_1 i) (by decide) rfl (fun ls hl => ?_)
                  refine lv_goto (tgt := 38) hx hb dX11_safeBy_89 (by decide) ?_
                  exact ih38 (i + 1) (by omega) (by omega) _ _ _ hP hD hS (lv_sub hl [2, 3, 4, 5, 6, 7, 1, 0] rfl)
                · refine lv_aload_n hx hb dX11_safeBy_56 rfl (lv_at hl 0 rfl) ?_
                  refine lv_iload hx hb dX11_safeBy_57 (lv_at hl 7 rfl) ?_
                  refine lv_iload hx hb dX11_safeBy_59 (lv_at hl 5 rfl) ?_
                  refine lv_iload_n hx hb dX11_safeBy_61 rfl (lv_at hl 3 rfl) ?_
                  refine he_ci (wc := [(m0, .inr (10, [.int tw, .int ta, .int sz_, .int pl, .int at_, .int fa, .int fw, .int cs, .ref fd, .ref rfm, .ref rt_, .ref to_, .ref rw_, .ref wa, .int ct, .ref rk, .ref rb, .ref cn, .ref br, .ref sm, .ref as_, .ref go, .ref sh_, .int ir, .int oa, .int ob, .int th, .int ig, .int sp_, .ref ki, .ref tg, .ref of_, .ref kp, .int sr, .ref rs]))]) (wr := []) (va_runV (As := [.int (nI i), .int (nI j), .int 0]) (rest := []) ⟨hx, hb, hml, hown, hts⟩ (c_X11_falls0 l g m0 fd rfm rt_ to_ rw_ wa rk rb cn br sm as_ go sh_ ki tg of_ kp rs ta sz_ pl at_ fa fw cs ct ir oa ob th ig sp_ sr tw (nI i) (nI j) H.size) (cwV 3 hts gX11_safeBy_X11_falls rfl rfl rfl (by decide +kernel) ⟨Nat.le_of_ble_eq_true rfl, Nat.le_of_ble_eq_true rfl⟩) (he_preV (wc := [(m0, .inr (10, [.int tw, .int ta, .int sz_, .int pl, .int at_, .int fa, .int fw, .int cs, .ref fd, .ref rfm, .ref rt_, .ref to_, .ref rw_, .ref wa, .int ct, .ref rk, .ref rb, .ref cn, .ref br, .ref sm, .ref as_, .ref go, .ref sh_, .int ir, .int oa, .int ob, .int th, .int ig, .int sp_, .ref ki, .ref tg, .ref of_, .ref kp, .int sr, .ref rs]))]) hK hP hD hS hA hE [0] rfl rfl 0 rfl rfl) rfl rfl hl.1 rfl (lv_room (Nat.le_of_ble_eq_true rfl)) dX11_safeBy_62 ⟨(Nat.le_of_ble_eq_true rfl), (Nat.le_of_ble_eq_true rfl)⟩) hP hD hS hA [0] [] rfl rfl rfl (by decide) (fun r_21 u_22 H locs h_23 hP hD hS => ?_)
                  subst h_23
                  have hP : va_P g.1 vwCl [(m0, .inr (10, [.int tw, .int ta, .int sz_, .int pl, .int at_, .int fa, .int fw, .int cs, .ref fd, .ref rfm, .ref rt_, .ref to_, .ref rw_, .ref wa, .int ct, .ref rk, .ref rb, .ref cn, .ref br, .ref sm, .ref as_, .ref go, .ref sh_, .int ir, .int oa, .int ob, .int th, .int ig, .int sp_, .ref ki, .ref tg, .ref of_, .ref kp, .int sr, .ref rs]))] H := hP
                  have hD : va_D A [(m0, .inr (10, [.int tw, .int ta, .int sz_, .int pl, .int at_, .int fa, .int fw, .int cs, .ref fd, .ref rfm, .ref rt_, .ref to_, .ref rw_, .ref wa, .int ct, .ref rk, .ref rb, .ref cn, .ref br, .ref sm, .ref as_, .ref go, .ref sh_, .int ir, .int oa, .int ob, .int th, .int ig, .int sp_, .ref ki, .ref tg, .ref of_, .ref kp, .int sr, .ref rs]))] := hD
                  refine lv_iload hx hb dX11_safeBy_65 (lv_at hl 6 rfl) ?_
                  refine lv_icmp_le (tgt := 82) hx hb dX11_safeBy_67 (by decide) (fun c_24 => ?_) (fun c_24 => ?_)
                  · refine lv_iload hx hb dX11_safeBy_82 (lv_at hl 6 rfl) ?_
                    refine lv_istore (lv' := [(6, .int 0), (0, .ref m0), (1, .int x), (2, .int y), (3, .int 0), (4, .int be), (5, .int (nI j)), (7, .int (nI i))]) hx hb dX11_safeBy_84 hl (by decide) rfl (fun ls hl => ?_)
                    refine lv_iinc (v := nI (i + 1)) (lv' := [(7, .int (nI (i + 1))), (6, .int 0), (0, .ref m0), (1, .int x), (2, .int y), (3, .int 0), (4, .int be), (5, .int (nI j))]) hx hb dX11_safeBy_86 hl (k := 7) rfl (nI_1 i) (by decide) rfl (fun ls hl => ?_)
                    refine lv_goto (tgt := 38) hx hb dX11_safeBy_89 (by decide) ?_
                    exact ih38 (i + 1) (by omega) (by omega) _ _ _ hP hD hS (lv_sub hl [2, 3, 4, 5, 6, 7, 1, 0] rfl)
                  · exact absurd (by decide) c_24
          exact loop38 ((343 - 0) + 1) 0 (Nat.lt_succ_self _) (Nat.zero_le _) _ _ _ hP hD hS (lv_sub hl [2, 3, 4, 5, 6, 7, 1, 0] rfl)
        · refine lv_goto (tgt := 118) hx hb dX11_safeBy_29 (by decide) ?_
          refine lv_iinc (v := nI (j + 1)) (lv' := [(5, .int (nI (j + 1))), (0, .ref m0), (1, .int x), (2, .int y), (3, .int 0), (4, .int be)]) hx hb dX11_safeBy_118 hl (k := 5) rfl (nI_1 j) (by decide) rfl (fun ls hl => ?_)
          refine lv_goto (tgt := 11) hx hb dX11_safeBy_121 (by decide) ?_
          exact ih11 (j + 1) be sr (by omega) (by omega) (by rcases hbe with ⟨h1, h2⟩ | h1 <;> first | exact Or.inr h1 | exact absurd (HF23.2 (by rw [h1]; rfl)) (by rw [c_9]; decide)) _ _ _ hP hD hS (lv_sub hl [1, 2, 3, 4, 5, 0] rfl)
  exact loop11 ((343 - 0) + 1) 0 (-1) 0 (Nat.lt_succ_self _) (Nat.zero_le _) (Or.inl ⟨rfl, rfl⟩) _ _ _ hP hD hS (lv_sub hl [2, 3, 4, 5, 1, 0] rfl)
set_option maxHeartbeats 4000000 in
set_option maxRecDepth 100000 in
theorem c_X11_sureBy0 (l : Launch) (g : he_G) (m0 : Nat) (fd : Nat) (rfm : Nat) (rt_ : Nat) (to_ : Nat) (rw_ : Nat) (wa : Nat) (rk : Nat) (rb : Nat) (cn : Nat) (br : Nat) (sm : Nat) (as_ : Nat) (go : Nat) (sh_ : Nat) (ki : Nat) (tg : Nat) (of_ : Nat) (kp : Nat) (rs : Nat) (ta : Int32) (sz_ : Int32) (pl : Int32) (at_ : Int32) (fa : Int32) (fw : Int32) (cs : Int32) (ct : Int32) (ir : Int32) (oa : Int32) (ob : Int32) (th : Int32) (ig : Int32) (sp_ : Int32) (sf : Int32) (tw : Int32) (x : Int32) (y : Int32)  : he_I l yX11_sureBy wsX11_sureBy 2 45 0 0 g [.ref m0, .int x, .int y, .int 0] [(m0, .inr (10, [.int tw, .int ta, .int sz_, .int pl, .int at_, .int fa, .int fw, .int cs, .ref fd, .ref rfm, .ref rt_, .ref to_, .ref rw_, .ref wa, .int ct, .ref rk, .ref rb, .ref cn, .ref br, .ref sm, .ref as_, .ref go, .ref sh_, .int ir, .int oa, .int ob, .int th, .int ig, .int sp_, .ref ki, .ref tg, .ref of_, .ref kp, .int sf, .ref rs]))] (fun (r : Int32) (u : Unit) => r = 0) (fun (u : Unit) => [(m0, .inr (10, [.int tw, .int ta, .int sz_, .int pl, .int at_, .int fa, .int fw, .int cs, .ref fd, .ref rfm, .ref rt_, .ref to_, .ref rw_, .ref wa, .int ct, .ref rk, .ref rb, .ref cn, .ref br, .ref sm, .ref as_, .ref go, .ref sh_, .int ir, .int oa, .int ob, .int th, .int ig, .int sp_, .ref ki, .ref tg, .ref of_, .ref kp, .int sf, .ref rs]))]) := by
  refine he_begin (l := l) (g := g) (y := yX11_sureBy) (wl := wsX11_sureBy) (fr := 2) (lo := 45) (mc := 0) (ms := 0) (av := [.ref m0, .int x, .int y, .int 0]) (ws := [(m0, .inr (10, [.int tw, .int ta, .int sz_, .int pl, .int at_, .int fa, .int fw, .int cs, .ref fd, .ref rfm, .ref rt_, .ref to_, .ref rw_, .ref wa, .int ct, .ref rk, .ref rb, .ref cn, .ref br, .ref sm, .ref as_, .ref go, .ref sh_, .int ir, .int oa, .int ob, .int th, .int ig, .int sp_, .ref ki, .ref tg, .ref of_, .ref kp, .int sf, .ref rs]))]) (cc := cX11_sureBy) (maxL := 8) (ret := (some .int)) (fun A => va_Qi (fun (r : Int32) (u : Unit) => r = 0) (fun u t => he_post g A ((fun (u : Unit) => [(m0, .inr (10, [.int tw, .int ta, .int sz_, .int pl, .int at_, .int fa, .int fw, .int cs, .ref fd, .ref rfm, .ref rt_, .ref to_, .ref rw_, .ref wa, .int ct, .ref rk, .ref rb, .ref cn, .ref br, .ref sm, .ref as_, .ref go, .ref sh_, .int ir, .int oa, .int ob, .int th, .int ig, .int sp_, .ref ki, .ref tg, .ref of_, .ref kp, .int sf, .ref rs]))]) u) t) A) (by decide) rfl (Nat.le_of_ble_eq_true rfl) ?_
  intro p e s m args below meth c A ls H locs Q hQ hB
  obtain ⟨hx, hb, hr, hml, hown, hts, hlk, hin, hP, hK, hD, hS, hA, hE, hl⟩ := hB
  have hl : lv_has ls 8 [(0, .ref m0), (1, .int x), (2, .int y), (3, .int 0)] := hl
  refine lv_iconst (v := 0) hx hb dX11_sureBy_0 (by decide) ?_
  refine lv_istore (lv' := [(4, .int 0), (0, .ref m0), (1, .int x), (2, .int y), (3, .int 0)]) hx hb dX11_sureBy_1 hl (by decide) rfl (fun ls hl => ?_)
  refine lv_iconst (v := 0) hx hb dX11_sureBy_3 (by decide) ?_
  refine lv_istore (lv' := [(5, .int 0), (4, .int 0), (0, .ref m0), (1, .int x), (2, .int y), (3, .int 0)]) hx hb dX11_sureBy_4 hl (by decide) rfl (fun ls hl => ?_)
  have loop6 : ∀ (n9 : Nat) (j : Nat), 343 - j < n9 → (j ≤ 343) → ∀ (H : Heap) (locs : List Loc) (ls : Array Slot), va_P g.1 vwCl [(m0, .inr (10, [.int tw, .int ta, .int sz_, .int pl, .int at_, .int fa, .int fw, .int cs, .ref fd, .ref rfm, .ref rt_, .ref to_, .ref rw_, .ref wa, .int ct, .ref rk, .ref rb, .ref cn, .ref br, .ref sm, .ref as_, .ref go, .ref sh_, .int ir, .int oa, .int ob, .int th, .int ig, .int sp_, .ref ki, .ref tg, .ref of_, .ref kp, .int sf, .ref rs]))] H → va_D A [(m0, .inr (10, [.int tw, .int ta, .int sz_, .int pl, .int at_, .int fa, .int fw, .int cs, .ref fd, .ref rfm, .ref rt_, .ref to_, .ref rw_, .ref wa, .int ct, .ref rk, .ref rb, .ref cn, .ref br, .ref sm, .ref as_, .ref go, .ref sh_, .int ir, .int oa, .int ob, .int th, .int ig, .int sp_, .ref ki, .ref tg, .ref of_, .ref kp, .int sf, .ref rs]))] → va_S A s.heap H locs → lv_has ls 8 [(0, .ref m0), (1, .int x), (2, .int y), (3, .int 0), (4, .int 0), (5, .int (nI j))] → W p l e (he_room 2 45 0 0) s m args below meth c H locs 0 0 Q (F0 m 6 ls []) := by
    intro n9
    induction n9 with
    | zero => intro j hm9; exact absurd hm9 (Nat.not_lt_zero _)
    | succ n9 ih6 =>
      intro j hm9 hj H locs ls hP hD hS hl
      refine lv_iload hx hb dX11_sureBy_6 (lv_at hl 5 rfl) ?_
      refine lv_sipush (v := 343) hx hb dX11_sureBy_8 (by decide) ?_
      refine lv_icmp_ge (tgt := 110) hx hb dX11_sureBy_11 (by decide) (fun c_1 => ?_) (fun c_1 => ?_)
      · have k_2 : 343 ≤ j := (he_cle (a := 343) (b := j) (by decide) rfl (by omega) (by omega)).mp c_1
        refine lv_iload hx hb dX11_sureBy_110 (lv_at hl 4 rfl) ?_
        exact he_ri hQ hx hb hr hlk hP hD hS dX11_sureBy_112 (Nat.le_of_ble_eq_true rfl) (Nat.le_of_ble_eq_true rfl) (()) (rfl) (rfl)
      · have k_3 : ¬ (343 ≤ j) := fun h9 => c_1 ((he_cle (a := 343) (b := j) (by decide) rfl (by omega) (by omega)).mpr h9)
        refine lv_iload hx hb dX11_sureBy_14 (lv_at hl 5 rfl) ?_
        refine lv_iload_n hx hb dX11_sureBy_16 rfl (lv_at hl 1 rfl) ?_
        refine lv_iload_n hx hb dX11_sureBy_17 rfl (lv_at hl 3 rfl) ?_
        refine he_ci (wc := []) (wr := [(m0, .inr (10, [.int tw, .int ta, .int sz_, .int pl, .int at_, .int fa, .int fw, .int cs, .ref fd, .ref rfm, .ref rt_, .ref to_, .ref rw_, .ref wa, .int ct, .ref rk, .ref rb, .ref cn, .ref br, .ref sm, .ref as_, .ref go, .ref sh_, .int ir, .int oa, .int ob, .int th, .int ig, .int sp_, .ref ki, .ref tg, .ref of_, .ref kp, .int sf, .ref rs]))]) (va_runS (As := [.int (nI j), .int x, .int 0]) (rest := []) ⟨hx, hb, hml, hown, hts⟩ (c_X11_puts00 l g (nI j) x H.size) (va_cwS 3 hts gX11_sureBy_X11_puts0 rfl rfl rfl (by decide +kernel) ⟨Nat.le_of_ble_eq_true rfl, Nat.le_of_ble_eq_true rfl⟩) (he_preS (wc := []) hK hP hD hS hA hE [] rfl rfl) rfl rfl hl.1 rfl (lv_room (Nat.le_of_ble_eq_true rfl)) dX11_sureBy_18 ⟨(Nat.le_of_ble_eq_true rfl), (Nat.le_of_ble_eq_true rfl)⟩) hP hD hS hA [] [0] rfl rfl rfl (by decide) (fun r_4 u_5 H locs h_6 hP hD hS => ?_)
        try dsimp only at h_6
        obtain ⟨hf_7, hf_8⟩ := h_6
        have hP : va_P g.1 vwCl [(m0, .inr (10, [.int tw, .int ta, .int sz_, .int pl, .int at_, .int fa, .int fw, .int cs, .ref fd, .ref rfm, .ref rt_, .ref to_, .ref rw_, .ref wa, .int ct, .ref rk, .ref rb, .ref cn, .ref br, .ref sm, .ref as_, .ref go, .ref sh_, .int ir, .int oa, .int ob, .int th, .int ig, .int sp_, .ref ki, .ref tg, .ref of_, .ref kp, .int sf, .ref rs]))] H := hP
        have hD : va_D A [(m0, .inr (10, [.int tw, .int ta, .int sz_, .int pl, .int at_, .int fa, .int fw, .int cs, .ref fd, .ref rfm, .ref rt_, .ref to_, .ref rw_, .ref wa, .int ct, .ref rk, .ref rb, .ref cn, .ref br, .ref sm, .ref as_, .ref go, .ref sh_, .int ir, .int oa, .int ob, .int th, .int ig, .int sp_, .ref ki, .ref tg, .ref of_, .ref kp, .int sf, .ref rs]))] := hD
        refine lv_if_ne (tgt := 27) hx hb dX11_sureBy_21 (by decide) (fun c_9 => ?_) (fun c_9 => ?_)
        · refine lv_iconst (v := (-1)) hx hb dX11_sureBy_27 (by decide) ?_
          refine lv_istore (lv' := [(6, .int (-1)), (0, .ref m0), (1, .int x), (2, .int y), (3, .int 0), (4, .int 0), (5, .int (nI j))]) hx hb dX11_sureBy_28 hl (by decide) rfl (fun ls hl => ?_)
          refine lv_iconst (v := 0) hx hb dX11_sureBy_30 (by decide) ?_
          refine lv_istore (lv' := [(7, .int 0), (6, .int (-1)), (0, .ref m0), (1, .int x), (2, .int y), (3, .int 0), (4, .int 0), (5, .int (nI j))]) hx hb dX11_sureBy_31 hl (by decide) rfl (fun ls hl => ?_)
          have loop33 : ∀ (n9 : Nat) (i : Nat) (wo : Int32), 343 - i < n9 → (i ≤ 343) → (wo = -1 ∨ wo = 0) → ∀ (H : Heap) (locs : List Loc) (ls : Array Slot), va_P g.1 vwCl [(m0, .inr (10, [.int tw, .int ta, .int sz_, .int pl, .int at_, .int fa, .int fw, .int cs, .ref fd, .ref rfm, .ref rt_, .ref to_, .ref rw_, .ref wa, .int ct, .ref rk, .ref rb, .ref cn, .ref br, .ref sm, .ref as_, .ref go, .ref sh_, .int ir, .int oa, .int ob, .int th, .int ig, .int sp_, .ref ki, .ref tg, .ref of_, .ref kp, .int sf, .ref rs]))] H → va_D A [(m0, .inr (10, [.int tw, .int ta, .int sz_, .int pl, .int at_, .int fa, .int fw, .int cs, .ref fd, .ref rfm, .ref rt_, .ref to_, .ref rw_, .ref wa, .int ct, .ref rk, .ref rb, .ref cn, .ref br, .ref sm, .ref as_, .ref go, .ref sh_, .int ir, .int oa, .int ob, .int th, .int ig, .int sp_, .ref ki, .ref tg, .ref of_, .ref kp, .int sf, .ref rs]))] → va_S A s.heap H locs → lv_has ls 8 [(0, .ref m0), (1, .int x), (2, .int y), (3, .int 0), (4, .int 0), (5, .int (nI j)), (6, .int wo), (7, .int (nI i))] → W p l e (he_room 2 45 0 0) s m args below meth c H locs 0 0 Q (F0 m 33 ls []) := by
            intro n9
            induction n9 with
            | zero => intro i wo hm9; exact absurd hm9 (Nat.not_lt_zero _)
            | succ n9 ih33 =>
              intro i wo hm9 hi hwo H locs ls hP hD hS hl
              refine lv_iload hx hb dX11_sureBy_33 (lv_at hl 7 rfl) ?_
              refine lv_sipush (v := 343) hx hb dX11_sureBy_35 (by decide) ?_
              refine lv_icmp_ge (tgt := 88) hx hb dX11_sureBy_38 (by decide) (fun c_10 => ?_) (fun c_10 => ?_)
              · have k_11 : 343 ≤ i := (he_cle (a := 343) (b := i) (by decide) rfl (by omega) (by omega)).mp c_10
                refine lv_iload hx hb dX11_sureBy_88 (lv_at hl 6 rfl) ?_
                refine lv_iload hx hb dX11_sureBy_90 (lv_at hl 4 rfl) ?_
                refine lv_icmp_le (tgt := 100) hx hb dX11_sureBy_92 (by decide) (fun c_12 => ?_) (fun c_12 => ?_)
                · refine lv_iload hx hb dX11_sureBy_100 (lv_at hl 4 rfl) ?_
                  refine lv_istore (lv' := [(4, .int 0), (0, .ref m0), (1, .int x), (2, .int y), (3, .int 0), (5, .int (nI j)), (6, .int wo), (7, .int (nI i))]) hx hb dX11_sureBy_102 hl (by decide) rfl (fun ls hl => ?_)
                  refine lv_iinc (v := nI (j + 1)) (lv' := [(5, .int (nI (j + 1))), (4, .int 0), (0, .ref m0), (1, .int x), (2, .int y), (3, .int 0), (6, .int wo), (7, .int (nI i))]) hx hb dX11_sureBy_104 hl (k := 5) rfl (nI_1 j) (by decide) rfl (fun ls hl => ?_)
                  refine lv_goto (tgt := 6) hx hb dX11_sureBy_107 (by decide) ?_
                  exact ih6 (j + 1) (by omega) (by omega) _ _ _ hP hD hS (lv_sub hl [2, 3, 4, 5, 1, 0] rfl)
                · exact absurd (by rcases hwo with rfl | rfl <;> decide) c_12
              · have k_13 : ¬ (343 ≤ i) := fun h9 => c_10 ((he_cle (a := 343) (b := i) (by decide) rfl (by omega) (by omega)).mpr h9)
                refine lv_iload hx hb dX11_sureBy_41 (lv_at hl 7 rfl) ?_
                refine lv_iload_n hx hb dX11_sureBy_43 rfl (lv_at hl 2 rfl) ?_
                refine lv_iload_n hx hb dX11_sureBy_44 rfl (lv_at hl 3 rfl) ?_
                refine he_ci (wc := []) (wr := [(m0, .inr (10, [.int tw, .int ta, .int sz_, .int pl, .int at_, .int fa, .int fw, .int cs, .ref fd, .ref rfm, .ref rt_, .ref to_, .ref rw_, .ref wa, .int ct, .ref rk, .ref rb, .ref cn, .ref br, .ref sm, .ref as_, .ref go, .ref sh_, .int ir, .int oa, .int ob, .int th, .int ig, .int sp_, .ref ki, .ref tg, .ref of_, .ref kp, .int sf, .ref rs]))]) (va_runS (As := [.int (nI i), .int y, .int 0]) (rest := []) ⟨hx, hb, hml, hown, hts⟩ (c_X11_puts00 l g (nI i) y H.size) (va_cwS 3 hts gX11_sureBy_X11_puts0 rfl rfl rfl (by decide +kernel) ⟨Nat.le_of_ble_eq_true rfl, Nat.le_of_ble_eq_true rfl⟩) (he_preS (wc := []) hK hP hD hS hA hE [] rfl rfl) rfl rfl hl.1 rfl (lv_room (Nat.le_of_ble_eq_true rfl)) dX11_sureBy_45 ⟨(Nat.le_of_ble_eq_true rfl), (Nat.le_of_ble_eq_true rfl)⟩) hP hD hS hA [] [0] rfl rfl rfl (by decide) (fun r_14 u_15 H locs h_16 hP hD hS => ?_)
                try dsimp only at h_16
                obtain ⟨hf_17, hf_18⟩ := h_16
                have hP : va_P g.1 vwCl [(m0, .inr (10, [.int tw, .int ta, .int sz_, .int pl, .int at_, .int fa, .int fw, .int cs, .ref fd, .ref rfm, .ref rt_, .ref to_, .ref rw_, .ref wa, .int ct, .ref rk, .ref rb, .ref cn, .ref br, .ref sm, .ref as_, .ref go, .ref sh_, .int ir, .int oa, .int ob, .int th, .int ig, .int sp_, .ref ki, .ref tg, .ref of_, .ref kp, .int sf, .ref rs]))] H := hP
                have hD : va_D A [(m0, .inr (10, [.int tw, .int ta, .int sz_, .int pl, .int at_, .int fa, .int fw, .int cs, .ref fd, .ref rfm, .ref rt_, .ref to_, .ref rw_, .ref wa, .int ct, .ref rk, .ref rb, .ref cn, .ref br, .ref sm, .ref as_, .ref go, .ref sh_, .int ir, .int oa, .int ob, .int th, .int ig, .int sp_, .ref ki, .ref tg, .ref of_, .ref kp, .int sf, .ref rs]))] := hD
                refine lv_if_eq (tgt := 82) hx hb dX11_sureBy_48 (by decide) (fun c_19 => ?_) (fun c_19 => ?_)
                · refine lv_iinc (v := nI (i + 1)) (lv' := [(7, .int (nI (i + 1))), (0, .ref m0), (1, .int x), (2, .int y), (3, .int 0), (4, .int 0), (5, .int (nI j)), (6, .int wo)]) hx hb dX11_sureBy_82 hl (k := 7) rfl (nI_1 i) (by decide) rfl (fun ls hl => ?_)
                  refine lv_goto (tgt := 33) hx hb dX11_sureBy_85 (by decide) ?_
                  exact ih33 (i + 1) wo (by omega) (by omega) hwo _ _ _ hP hD hS (lv_sub hl [1, 2, 3, 4, 5, 6, 7, 0] rfl)
                · refine lv_iload hx hb dX11_sureBy_51 (lv_at hl 6 rfl) ?_
                  refine lv_iconst (v := (-1)) hx hb dX11_sureBy_53 (by decide) ?_
                  refine lv_icmp_eq (tgt := 71) hx hb dX11_sureBy_54 (by decide) (fun c_20 => ?_) (fun c_20 => ?_)
                  · refine lv_aload_n hx hb dX11_sureBy_71 rfl (lv_at hl 0 rfl) ?_
                    refine lv_iload hx hb dX11_sureBy_72 (lv_at hl 5 rfl) ?_
                    refine lv_iload hx hb dX11_sureBy_74 (lv_at hl 7 rfl) ?_
                    refine lv_iload_n hx hb dX11_sureBy_76 rfl (lv_at hl 3 rfl) ?_
                    refine he_ci (wc := [(m0, .inr (10, [.int tw, .int ta, .int sz_, .int pl, .int at_, .int fa, .int fw, .int cs, .ref fd, .ref rfm, .ref rt_, .ref to_, .ref rw_, .ref wa, .int ct, .ref rk, .ref rb, .ref cn, .ref br, .ref sm, .ref as_, .ref go, .ref sh_, .int ir, .int oa, .int ob, .int th, .int ig, .int sp_, .ref ki, .ref tg, .ref of_, .ref kp, .int sf, .ref rs]))]) (wr := []) (va_runV (As := [.int (nI j), .int (nI i), .int 0]) (rest := []) ⟨hx, hb, hml, hown, hts⟩ (c_X11_falls0 l g m0 fd rfm rt_ to_ rw_ wa rk rb cn br sm as_ go sh_ ki tg of_ kp rs ta sz_ pl at_ fa fw cs ct ir oa ob th ig sp_ sf tw (nI j) (nI i) H.size) (cwV 3 hts gX11_sureBy_X11_falls rfl rfl rfl (by decide +kernel) ⟨Nat.le_of_ble_eq_true rfl, Nat.le_of_ble_eq_true rfl⟩) (he_preV (wc := [(m0, .inr (10, [.int tw, .int ta, .int sz_, .int pl, .int at_, .int fa, .int fw, .int cs, .ref fd, .ref rfm, .ref rt_, .ref to_, .ref rw_, .ref wa, .int ct, .ref rk, .ref rb, .ref cn, .ref br, .ref sm, .ref as_, .ref go, .ref sh_, .int ir, .int oa, .int ob, .int th, .int ig, .int sp_, .ref ki, .ref tg, .ref of_, .ref kp, .int sf, .ref rs]))]) hK hP hD hS hA hE [0] rfl rfl 0 rfl rfl) rfl rfl hl.1 rfl (lv_room (Nat.le_of_ble_eq_true rfl)) dX11_sureBy_77 ⟨(Nat.le_of_ble_eq_true rfl), (Nat.le_of_ble_eq_true rfl)⟩) hP hD hS hA [0] [] rfl rfl rfl (by decide) (fun r_21 u_22 H locs h_23 hP hD hS => ?_)
                    subst h_23
                    have hP : va_P g.1 vwCl [(m0, .inr (10, [.int tw, .int ta, .int sz_, .int pl, .int at_, .int fa, .int fw, .int cs, .ref fd, .ref rfm, .ref rt_, .ref to_, .ref rw_, .ref wa, .int ct, .ref rk, .ref rb, .ref cn, .ref br, .ref sm, .ref as_, .ref go, .ref sh_, .int ir, .int oa, .int ob, .int th, .int ig, .int sp_, .ref ki, .ref tg, .ref of_, .ref kp, .int sf, .ref rs]))] H := hP
                    have hD : va_D A [(m0, .inr (10, [.int tw, .int ta, .int sz_, .int pl, .int at_, .int fa, .int fw, .int cs, .ref fd, .ref rfm, .ref rt_, .ref to_, .ref rw_, .ref wa, .int ct, .ref rk, .ref rb, .ref cn, .ref br, .ref sm, .ref as_, .ref go, .ref sh_, .int ir, .int oa, .int ob, .int th, .int ig, .int sp_, .ref ki, .ref tg, .ref of_, .ref kp, .int sf, .ref rs]))] := hD
                    refine lv_istore (lv' := [(6, .int 0), (0, .ref m0), (1, .int x), (2, .int y), (3, .int 0), (4, .int 0), (5, .int (nI j)), (7, .int (nI i))]) hx hb dX11_sureBy_80 hl (by decide) rfl (fun ls hl => ?_)
                    refine lv_iinc (v := nI (i + 1)) (lv' := [(7, .int (nI (i + 1))), (6, .int 0), (0, .ref m0), (1, .int x), (2, .int y), (3, .int 0), (4, .int 0), (5, .int (nI j))]) hx hb dX11_sureBy_82 hl (k := 7) rfl (nI_1 i) (by decide) rfl (fun ls hl => ?_)
                    refine lv_goto (tgt := 33) hx hb dX11_sureBy_85 (by decide) ?_
                    exact ih33 (i + 1) 0 (by omega) (by omega) (Or.inr rfl) _ _ _ hP hD hS (lv_sub hl [2, 3, 4, 5, 6, 7, 1, 0] rfl)
                  · refine lv_aload_n hx hb dX11_sureBy_57 rfl (lv_at hl 0 rfl) ?_
                    refine lv_iload hx hb dX11_sureBy_58 (lv_at hl 5 rfl) ?_
                    refine lv_iload hx hb dX11_sureBy_60 (lv_at hl 7 rfl) ?_
                    refine lv_iload_n hx hb dX11_sureBy_62 rfl (lv_at hl 3 rfl) ?_
                    refine he_ci (wc := [(m0, .inr (10, [.int tw, .int ta, .int sz_, .int pl, .int at_, .int fa, .int fw, .int cs, .ref fd, .ref rfm, .ref rt_, .ref to_, .ref rw_, .ref wa, .int ct, .ref rk, .ref rb, .ref cn, .ref br, .ref sm, .ref as_, .ref go, .ref sh_, .int ir, .int oa, .int ob, .int th, .int ig, .int sp_, .ref ki, .ref tg, .ref of_, .ref kp, .int sf, .ref rs]))]) (wr := []) (va_runV (As := [.int (nI j), .int (nI i), .int 0]) (rest := []) ⟨hx, hb, hml, hown, hts⟩ (c_X11_falls0 l g m0 fd rfm rt_ to_ rw_ wa rk rb cn br sm as_ go sh_ ki tg of_ kp rs ta sz_ pl at_ fa fw cs ct ir oa ob th ig sp_ sf tw (nI j) (nI i) H.size) (cwV 3 hts gX11_sureBy_X11_falls rfl rfl rfl (by decide +kernel) ⟨Nat.le_of_ble_eq_true rfl, Nat.le_of_ble_eq_true rfl⟩) (he_preV (wc := [(m0, .inr (10, [.int tw, .int ta, .int sz_, .int pl, .int at_, .int fa, .int fw, .int cs, .ref fd, .ref rfm, .ref rt_, .ref to_, .ref rw_, .ref wa, .int ct, .ref rk, .ref rb, .ref cn, .ref br, .ref sm, .ref as_, .ref go, .ref sh_, .int ir, .int oa, .int ob, .int th, .int ig, .int sp_, .ref ki, .ref tg, .ref of_, .ref kp, .int sf, .ref rs]))]) hK hP hD hS hA hE [0] rfl rfl 0 rfl rfl) rfl rfl hl.1 rfl (lv_room (Nat.le_of_ble_eq_true rfl)) dX11_sureBy_63 ⟨(Nat.le_of_ble_eq_true rfl), (Nat.le_of_ble_eq_true rfl)⟩) hP hD hS hA [0] [] rfl rfl rfl (by decide) (fun r_24 u_25 H locs h_26 hP hD hS => ?_)
                    subst h_26
                    have hP : va_P g.1 vwCl [(m0, .inr (10, [.int tw, .int ta, .int sz_, .int pl, .int at_, .int fa, .int fw, .int cs, .ref fd, .ref rfm, .ref rt_, .ref to_, .ref rw_, .ref wa, .int ct, .ref rk, .ref rb, .ref cn, .ref br, .ref sm, .ref as_, .ref go, .ref sh_, .int ir, .int oa, .int ob, .int th, .int ig, .int sp_, .ref ki, .ref tg, .ref of_, .ref kp, .int sf, .ref rs]))] H := hP
                    have hD : va_D A [(m0, .inr (10, [.int tw, .int ta, .int sz_, .int pl, .int at_, .int fa, .int fw, .int cs, .ref fd, .ref rfm, .ref rt_, .ref to_, .ref rw_, .ref wa, .int ct, .ref rk, .ref rb, .ref cn, .ref br, .ref sm, .ref as_, .ref go, .ref sh_, .int ir, .int oa, .int ob, .int th, .int ig, .int sp_, .ref ki, .ref tg, .ref of_, .ref kp, .int sf, .ref rs]))] := hD
                    refine lv_iload hx hb dX11_sureBy_66 (lv_at hl 6 rfl) ?_
                    refine lv_icmp_ge (tgt := 82) hx hb dX11_sureBy_68 (by decide) (fun c_27 => ?_) (fun c_27 => ?_)
                    · refine lv_iinc (v := nI (i + 1)) (lv' := [(7, .int (nI (i + 1))), (0, .ref m0), (1, .int x), (2, .int y), (3, .int 0), (4, .int 0), (5, .int (nI j)), (6, .int wo)]) hx hb dX11_sureBy_82 hl (k := 7) rfl (nI_1 i) (by decide) rfl (fun ls hl => ?_)
                      refine lv_goto (tgt := 33) hx hb dX11_sureBy_85 (by decide) ?_
                      exact ih33 (i + 1) wo (by omega) (by omega) hwo _ _ _ hP hD hS (lv_sub hl [1, 2, 3, 4, 5, 6, 7, 0] rfl)
                    · refine lv_aload_n hx hb dX11_sureBy_71 rfl (lv_at hl 0 rfl) ?_
                      refine lv_iload hx hb dX11_sureBy_72 (lv_at hl 5 rfl) ?_
                      refine lv_iload hx hb dX11_sureBy_74 (lv_at hl 7 rfl) ?_
                      refine lv_iload_n hx hb dX11_sureBy_76 rfl (lv_at hl 3 rfl) ?_
                      refine he_ci (wc := [(m0, .inr (10, [.int tw, .int ta, .int sz_, .int pl, .int at_, .int fa, .int fw, .int cs, .ref fd, .ref rfm, .ref rt_, .ref to_, .ref rw_, .ref wa, .int ct, .ref rk, .ref rb, .ref cn, .ref br, .ref sm, .ref as_, .ref go, .ref sh_, .int ir, .int oa, .int ob, .int th, .int ig, .int sp_, .ref ki, .ref tg, .ref of_, .ref kp, .int sf, .ref rs]))]) (wr := []) (va_runV (As := [.int (nI j), .int (nI i), .int 0]) (rest := []) ⟨hx, hb, hml, hown, hts⟩ (c_X11_falls0 l g m0 fd rfm rt_ to_ rw_ wa rk rb cn br sm as_ go sh_ ki tg of_ kp rs ta sz_ pl at_ fa fw cs ct ir oa ob th ig sp_ sf tw (nI j) (nI i) H.size) (cwV 3 hts gX11_sureBy_X11_falls rfl rfl rfl (by decide +kernel) ⟨Nat.le_of_ble_eq_true rfl, Nat.le_of_ble_eq_true rfl⟩) (he_preV (wc := [(m0, .inr (10, [.int tw, .int ta, .int sz_, .int pl, .int at_, .int fa, .int fw, .int cs, .ref fd, .ref rfm, .ref rt_, .ref to_, .ref rw_, .ref wa, .int ct, .ref rk, .ref rb, .ref cn, .ref br, .ref sm, .ref as_, .ref go, .ref sh_, .int ir, .int oa, .int ob, .int th, .int ig, .int sp_, .ref ki, .ref tg, .ref of_, .ref kp, .int sf, .ref rs]))]) hK hP hD hS hA hE [0] rfl rfl 0 rfl rfl) rfl rfl hl.1 rfl (lv_room (Nat.le_of_ble_eq_true rfl)) dX11_sureBy_77 ⟨(Nat.le_of_ble_eq_true rfl), (Nat.le_of_ble_eq_true rfl)⟩) hP hD hS hA [0] [] rfl rfl rfl (by decide) (fun r_28 u_29 H locs h_30 hP hD hS => ?_)
                      subst h_30
                      have hP : va_P g.1 vwCl [(m0, .inr (10, [.int tw, .int ta, .int sz_, .int pl, .int at_, .int fa, .int fw, .int cs, .ref fd, .ref rfm, .ref rt_, .ref to_, .ref rw_, .ref wa, .int ct, .ref rk, .ref rb, .ref cn, .ref br, .ref sm, .ref as_, .ref go, .ref sh_, .int ir, .int oa, .int ob, .int th, .int ig, .int sp_, .ref ki, .ref tg, .ref of_, .ref kp, .int sf, .ref rs]))] H := hP
                      have hD : va_D A [(m0, .inr (10, [.int tw, .int ta, .int sz_, .int pl, .int at_, .int fa, .int fw, .int cs, .ref fd, .ref rfm, .ref rt_, .ref to_, .ref rw_, .ref wa, .int ct, .ref rk, .ref rb, .ref cn, .ref br, .ref sm, .ref as_, .ref go, .ref sh_, .int ir, .int oa, .int ob, .int th, .int ig, .int sp_, .ref ki, .ref tg, .ref of_, .ref kp, .int sf, .ref rs]))] := hD
                      refine lv_istore (lv' := [(6, .int 0), (0, .ref m0), (1, .int x), (2, .int y), (3, .int 0), (4, .int 0), (5, .int (nI j)), (7, .int (nI i))]) hx hb dX11_sureBy_80 hl (by decide) rfl (fun ls hl => ?_)
                      refine lv_iinc (v := nI (i + 1)) (lv' := [(7, .int (nI (i + 1))), (6, .int 0), (0, .ref m0), (1, .int x), (2, .int y), (3, .int 0), (4, .int 0), (5, .int (nI j))]) hx hb dX11_sureBy_82 hl (k := 7) rfl (nI_1 i) (by decide) rfl (fun ls hl => ?_)
                      refine lv_goto (tgt := 33) hx hb dX11_sureBy_85 (by decide) ?_
                      exact ih33 (i + 1) 0 (by omega) (by omega) (Or.inr rfl) _ _ _ hP hD hS (lv_sub hl [2, 3, 4, 5, 6, 7, 1, 0] rfl)
          exact loop33 ((343 - 0) + 1) 0 (-1) (Nat.lt_succ_self _) (Nat.zero_le _) (Or.inl rfl) _ _ _ hP hD hS (lv_sub hl [2, 3, 4, 5, 6, 7, 1, 0] rfl)
        · refine lv_goto (tgt := 104) hx hb dX11_sureBy_24 (by decide) ?_
          refine lv_iinc (v := nI (j + 1)) (lv' := [(5, .int (nI (j + 1))), (0, .ref m0), (1, .int x), (2, .int y), (3, .int 0), (4, .int 0)]) hx hb dX11_sureBy_104 hl (k := 5) rfl (nI_1 j) (by decide) rfl (fun ls hl => ?_)
          refine lv_goto (tgt := 6) hx hb dX11_sureBy_107 (by decide) ?_
          exact ih6 (j + 1) (by omega) (by omega) _ _ _ hP hD hS (lv_sub hl [1, 2, 3, 4, 5, 0] rfl)
  exact loop6 ((343 - 0) + 1) 0 (Nat.lt_succ_self _) (Nat.zero_le _) _ _ _ hP hD hS (lv_sub hl [2, 3, 4, 5, 1, 0] rfl)
set_option maxHeartbeats 4000000 in
set_option maxRecDepth 100000 in
theorem c_X11_areTens1 (l : Launch) (g : he_G) (x : Int32) (y : Int32) (hok0 : ¬ he_within x 0 6 = 0) (hok1 : ¬ he_within y 0 6 = 0) : he_I l yX11_areTens wsX11_areTens 1 22 0 0 g [.int x, .int y] [] (fun (r : Int32) (u : Unit) => r = 1) (fun (u : Unit) => []) := by
  refine he_begin (l := l) (g := g) (y := yX11_areTens) (wl := wsX11_areTens) (fr := 1) (lo := 22) (mc := 0) (ms := 0) (av := [.int x, .int y]) (ws := []) (cc := cX11_areTens) (maxL := 2) (ret := (some .boolean)) (fun A => va_Qi (fun (r : Int32) (u : Unit) => r = 1) (fun u t => he_post g A ((fun (u : Unit) => []) u) t) A) (by decide) rfl (Nat.le_of_ble_eq_true rfl) ?_
  intro p e s m args below meth c A ls H locs Q hQ hB
  obtain ⟨hx, hb, hr, hml, hown, hts, hlk, hin, hP, hK, hD, hS, hA, hE, hl⟩ := hB
  have hl : lv_has ls 2 [(0, .int x), (1, .int y)] := hl
  refine lv_iload_n hx hb dX11_areTens_0 rfl (lv_at hl 0 rfl) ?_
  refine lv_iconst (v := 0) hx hb dX11_areTens_1 (by decide) ?_
  refine lv_bipush (v := 6) hx hb dX11_areTens_2 (by decide) ?_
  refine he_ci (wc := []) (wr := []) (va_runS (As := [.int x, .int 0, .int 6]) (rest := []) ⟨hx, hb, hml, hown, hts⟩ (c_X11_in l g x 0 6 H.size) (va_cwS 3 hts gX11_areTens_X11_in rfl rfl rfl (by decide +kernel) ⟨Nat.le_of_ble_eq_true rfl, Nat.le_of_ble_eq_true rfl⟩) (he_preS (wc := []) hK hP hD hS hA hE [] rfl rfl) rfl rfl hl.1 rfl (lv_room (Nat.le_of_ble_eq_true rfl)) dX11_areTens_4 ⟨(Nat.le_of_ble_eq_true rfl), (Nat.le_of_ble_eq_true rfl)⟩) hP hD hS hA [] [] rfl rfl rfl (by decide) (fun r_1 u_2 H locs h_3 hP hD hS => ?_)
  subst h_3
  have hP : va_P g.1 vwCl [] H := hP
  have hD : va_D A [] := hD
  refine he_top (1) (he_within_1 hok0) ?_
  refine lv_if_eq (tgt := 24) hx hb dX11_areTens_7 (by decide) (fun c_4 => ?_) (fun c_4 => ?_)
  · exact absurd c_4 (by decide)
  · refine lv_iload_n hx hb dX11_areTens_10 rfl (lv_at hl 1 rfl) ?_
    refine lv_iconst (v := 0) hx hb dX11_areTens_11 (by decide) ?_
    refine lv_bipush (v := 6) hx hb dX11_areTens_12 (by decide) ?_
    refine he_ci (wc := []) (wr := []) (va_runS (As := [.int y, .int 0, .int 6]) (rest := []) ⟨hx, hb, hml, hown, hts⟩ (c_X11_in l g y 0 6 H.size) (va_cwS 3 hts gX11_areTens_X11_in rfl rfl rfl (by decide +kernel) ⟨Nat.le_of_ble_eq_true rfl, Nat.le_of_ble_eq_true rfl⟩) (he_preS (wc := []) hK hP hD hS hA hE [] rfl rfl) rfl rfl hl.1 rfl (lv_room (Nat.le_of_ble_eq_true rfl)) dX11_areTens_14 ⟨(Nat.le_of_ble_eq_true rfl), (Nat.le_of_ble_eq_true rfl)⟩) hP hD hS hA [] [] rfl rfl rfl (by decide) (fun r_5 u_6 H locs h_7 hP hD hS => ?_)
    subst h_7
    have hP : va_P g.1 vwCl [] H := hP
    have hD : va_D A [] := hD
    refine he_top (1) (he_within_1 hok1) ?_
    refine lv_if_eq (tgt := 24) hx hb dX11_areTens_17 (by decide) (fun c_8 => ?_) (fun c_8 => ?_)
    · exact absurd c_8 (by decide)
    · refine lv_iconst (v := 1) hx hb dX11_areTens_20 (by decide) ?_
      refine lv_goto (tgt := 25) hx hb dX11_areTens_21 (by decide) ?_
      exact he_rz hQ hx hb hr hlk hP hD hS dX11_areTens_25 (Nat.le_of_ble_eq_true rfl) (Nat.le_of_ble_eq_true rfl) rfl (()) (rfl) (rfl)
set_option maxHeartbeats 4000000 in
set_option maxRecDepth 100000 in
theorem c_X11_areTens0 (l : Launch) (g : he_G) (x : Int32) (y : Int32) (hb6 : he_within x 0 6 = 0 ∨ he_within y 0 6 = 0) : he_I l yX11_areTens wsX11_areTens 1 22 0 0 g [.int x, .int y] [] (fun (r : Int32) (u : Unit) => r = 0) (fun (u : Unit) => []) := by
  refine he_begin (l := l) (g := g) (y := yX11_areTens) (wl := wsX11_areTens) (fr := 1) (lo := 22) (mc := 0) (ms := 0) (av := [.int x, .int y]) (ws := []) (cc := cX11_areTens) (maxL := 2) (ret := (some .boolean)) (fun A => va_Qi (fun (r : Int32) (u : Unit) => r = 0) (fun u t => he_post g A ((fun (u : Unit) => []) u) t) A) (by decide) rfl (Nat.le_of_ble_eq_true rfl) ?_
  intro p e s m args below meth c A ls H locs Q hQ hB
  obtain ⟨hx, hb, hr, hml, hown, hts, hlk, hin, hP, hK, hD, hS, hA, hE, hl⟩ := hB
  have hl : lv_has ls 2 [(0, .int x), (1, .int y)] := hl
  refine lv_iload_n hx hb dX11_areTens_0 rfl (lv_at hl 0 rfl) ?_
  refine lv_iconst (v := 0) hx hb dX11_areTens_1 (by decide) ?_
  refine lv_bipush (v := 6) hx hb dX11_areTens_2 (by decide) ?_
  refine he_ci (wc := []) (wr := []) (va_runS (As := [.int x, .int 0, .int 6]) (rest := []) ⟨hx, hb, hml, hown, hts⟩ (c_X11_in l g x 0 6 H.size) (va_cwS 3 hts gX11_areTens_X11_in rfl rfl rfl (by decide +kernel) ⟨Nat.le_of_ble_eq_true rfl, Nat.le_of_ble_eq_true rfl⟩) (he_preS (wc := []) hK hP hD hS hA hE [] rfl rfl) rfl rfl hl.1 rfl (lv_room (Nat.le_of_ble_eq_true rfl)) dX11_areTens_4 ⟨(Nat.le_of_ble_eq_true rfl), (Nat.le_of_ble_eq_true rfl)⟩) hP hD hS hA [] [] rfl rfl rfl (by decide) (fun r_1 u_2 H locs h_3 hP hD hS => ?_)
  subst h_3
  have hP : va_P g.1 vwCl [] H := hP
  have hD : va_D A [] := hD
  refine lv_if_eq (tgt := 24) hx hb dX11_areTens_7 (by decide) (fun c_4 => ?_) (fun c_4 => ?_)
  · refine lv_iconst (v := 0) hx hb dX11_areTens_24 (by decide) ?_
    exact he_rz hQ hx hb hr hlk hP hD hS dX11_areTens_25 (Nat.le_of_ble_eq_true rfl) (Nat.le_of_ble_eq_true rfl) rfl (()) (rfl) (rfl)
  · refine lv_iload_n hx hb dX11_areTens_10 rfl (lv_at hl 1 rfl) ?_
    refine lv_iconst (v := 0) hx hb dX11_areTens_11 (by decide) ?_
    refine lv_bipush (v := 6) hx hb dX11_areTens_12 (by decide) ?_
    refine he_ci (wc := []) (wr := []) (va_runS (As := [.int y, .int 0, .int 6]) (rest := []) ⟨hx, hb, hml, hown, hts⟩ (c_X11_in l g y 0 6 H.size) (va_cwS 3 hts gX11_areTens_X11_in rfl rfl rfl (by decide +kernel) ⟨Nat.le_of_ble_eq_true rfl, Nat.le_of_ble_eq_true rfl⟩) (he_preS (wc := []) hK hP hD hS hA hE [] rfl rfl) rfl rfl hl.1 rfl (lv_room (Nat.le_of_ble_eq_true rfl)) dX11_areTens_14 ⟨(Nat.le_of_ble_eq_true rfl), (Nat.le_of_ble_eq_true rfl)⟩) hP hD hS hA [] [] rfl rfl rfl (by decide) (fun r_5 u_6 H locs h_7 hP hD hS => ?_)
    subst h_7
    have hP : va_P g.1 vwCl [] H := hP
    have hD : va_D A [] := hD
    refine lv_if_eq (tgt := 24) hx hb dX11_areTens_17 (by decide) (fun c_8 => ?_) (fun c_8 => ?_)
    · refine lv_iconst (v := 0) hx hb dX11_areTens_24 (by decide) ?_
      exact he_rz hQ hx hb hr hlk hP hD hS dX11_areTens_25 (Nat.le_of_ble_eq_true rfl) (Nat.le_of_ble_eq_true rfl) rfl (()) (rfl) (rfl)
    · refine lv_iconst (v := 1) hx hb dX11_areTens_20 (by decide) ?_
      refine lv_goto (tgt := 25) hx hb dX11_areTens_21 (by decide) ?_
      exact he_rz hQ hx hb hr hlk hP hD hS dX11_areTens_25 (Nat.le_of_ble_eq_true rfl) (Nat.le_of_ble_eq_true rfl) rfl (()) (rfl) ((absurd hb6 (by rintro (h9 | h9) <;> contradiction)))
set_option maxHeartbeats 4000000 in
set_option maxRecDepth 100000 in
theorem c_X11_earnest0 (l : Launch) (g : he_G) (m0 : Nat) (fd : Nat) (rfm : Nat) (rt_ : Nat) (to_ : Nat) (rw_ : Nat) (wa : Nat) (rk : Nat) (rb : Nat) (cn : Nat) (br : Nat) (sm : Nat) (as_ : Nat) (go : Nat) (sh_ : Nat) (ki : Nat) (tg : Nat) (of_ : Nat) (kp : Nat) (rs : Nat) (tl : Nat → Int32) (a : Nat) (d : Nat) (ha6 : a ≤ 6) (hd6 : d ≤ 6) (ht0 : tl 0 = 0) : he_I l yX11_earnest wsX11_earnest 3 72 0 0 g [.ref m0, .int (nI a), .int (nI d), .int 0] [(m0, .inr (10, [.int 0, .int 0, .int 0, .int (-1), .int 0, .int 0, .int 0, .int 0, .ref fd, .ref rfm, .ref rt_, .ref to_, .ref rw_, .ref wa, .int 0, .ref rk, .ref rb, .ref cn, .ref br, .ref sm, .ref as_, .ref go, .ref sh_, .int 0, .int 1, .int 1, .int 0, .int 0, .int 0, .ref ki, .ref tg, .ref of_, .ref kp, .int 0, .ref rs])), (to_, .inl (g.2 1, 25, .inl tl))] (fun (r : Int32) (u : Int32) => r = 0) (fun (u : Int32) => [(m0, .inr (10, [.int 0, .int 0, .int 0, .int (-1), .int 0, .int 0, .int 0, .int 0, .ref fd, .ref rfm, .ref rt_, .ref to_, .ref rw_, .ref wa, .int 0, .ref rk, .ref rb, .ref cn, .ref br, .ref sm, .ref as_, .ref go, .ref sh_, .int 0, .int 1, .int 1, .int 0, .int 0, .int 0, .ref ki, .ref tg, .ref of_, .ref kp, .int u, .ref rs]))]) := by
  refine he_begin (l := l) (g := g) (y := yX11_earnest) (wl := wsX11_earnest) (fr := 3) (lo := 72) (mc := 0) (ms := 0) (av := [.ref m0, .int (nI a), .int (nI d), .int 0]) (ws := [(m0, .inr (10, [.int 0, .int 0, .int 0, .int (-1), .int 0, .int 0, .int 0, .int 0, .ref fd, .ref rfm, .ref rt_, .ref to_, .ref rw_, .ref wa, .int 0, .ref rk, .ref rb, .ref cn, .ref br, .ref sm, .ref as_, .ref go, .ref sh_, .int 0, .int 1, .int 1, .int 0, .int 0, .int 0, .ref ki, .ref tg, .ref of_, .ref kp, .int 0, .ref rs])), (to_, .inl (g.2 1, 25, .inl tl))]) (cc := cX11_earnest) (maxL := 4) (ret := (some .int)) (fun A => va_Qi (fun (r : Int32) (u : Int32) => r = 0) (fun u t => he_post g A ((fun (u : Int32) => [(m0, .inr (10, [.int 0, .int 0, .int 0, .int (-1), .int 0, .int 0, .int 0, .int 0, .ref fd, .ref rfm, .ref rt_, .ref to_, .ref rw_, .ref wa, .int 0, .ref rk, .ref rb, .ref cn, .ref br, .ref sm, .ref as_, .ref go, .ref sh_, .int 0, .int 1, .int 1, .int 0, .int 0, .int 0, .ref ki, .ref tg, .ref of_, .ref kp, .int u, .ref rs]))]) u) t) A) (by decide) rfl (Nat.le_of_ble_eq_true rfl) ?_
  intro p e s m args below meth c A ls H locs Q hQ hB
  obtain ⟨hx, hb, hr, hml, hown, hts, hlk, hin, hP, hK, hD, hS, hA, hE, hl⟩ := hB
  have hl : lv_has ls 4 [(0, .ref m0), (1, .int (nI a)), (2, .int (nI d)), (3, .int 0)] := hl
  have f85 := hts (.fieldLink RX11 85 "HiredEnemyModel" "thrown" "I") (by decide +kernel)
  have inX11 : ∀ w ∈ wsX110, w ∈ wsX11_earnest := by decide +kernel
  refine lv_aload_n hx hb dX11_earnest_0 rfl (lv_at hl 0 rfl) ?_
  refine lv_iconst (v := 0) hx hb dX11_earnest_1 (by decide) ?_
  refine va_put (v := .int 0) (ty := .int) (T := TX11) (N := 35) hx hb hts inX11 tyX11 tyX11_ok nmX11 hown hK hP hD hS 0 rfl rfl 0 (by decide) f85 (fun _ h9 => h9) rfl (by decide +kernel) rfl rfl (Nat.le_of_ble_eq_true rfl) dX11_earnest_2 (fun H locs hP hD hS => ?_)
  have hP : va_P g.1 vwCl [(m0, .inr (10, [.int 0, .int 0, .int 0, .int (-1), .int 0, .int 0, .int 0, .int 0, .ref fd, .ref rfm, .ref rt_, .ref to_, .ref rw_, .ref wa, .int 0, .ref rk, .ref rb, .ref cn, .ref br, .ref sm, .ref as_, .ref go, .ref sh_, .int 0, .int 1, .int 1, .int 0, .int 0, .int 0, .ref ki, .ref tg, .ref of_, .ref kp, .int 0, .ref rs])), (to_, .inl (g.2 1, 25, .inl tl))] H := hP
  have hD : va_D A [(m0, .inr (10, [.int 0, .int 0, .int 0, .int (-1), .int 0, .int 0, .int 0, .int 0, .ref fd, .ref rfm, .ref rt_, .ref to_, .ref rw_, .ref wa, .int 0, .ref rk, .ref rb, .ref cn, .ref br, .ref sm, .ref as_, .ref go, .ref sh_, .int 0, .int 1, .int 1, .int 0, .int 0, .int 0, .ref ki, .ref tg, .ref of_, .ref kp, .int 0, .ref rs])), (to_, .inl (g.2 1, 25, .inl tl))] := hD
  refine lv_aload_n hx hb dX11_earnest_5 rfl (lv_at hl 0 rfl) ?_
  refine lv_iload_n hx hb dX11_earnest_6 rfl (lv_at hl 1 rfl) ?_
  refine lv_iload_n hx hb dX11_earnest_7 rfl (lv_at hl 2 rfl) ?_
  refine he_ci (wc := []) (wr := [(m0, .inr (10, [.int 0, .int 0, .int 0, .int (-1), .int 0, .int 0, .int 0, .int 0, .ref fd, .ref rfm, .ref rt_, .ref to_, .ref rw_, .ref wa, .int 0, .ref rk, .ref rb, .ref cn, .ref br, .ref sm, .ref as_, .ref go, .ref sh_, .int 0, .int 1, .int 1, .int 0, .int 0, .int 0, .ref ki, .ref tg, .ref of_, .ref kp, .int 0, .ref rs])), (to_, .inl (g.2 1, 25, .inl tl))]) (va_runS (As := [.int (nI a), .int (nI d)]) (rest := [.ref m0]) ⟨hx, hb, hml, hown, hts⟩ (c_X11_areTens1 l g (nI a) (nI d) (fun h9 => absurd (he_within_in (k := a) (a := 0) (b := 6) (a0 := 0) (B := 6) rfl rfl (by omega) (by omega) (by decide)) (by rw [h9]; decide)) (fun h9 => absurd (he_within_in (k := d) (a := 0) (b := 6) (a0 := 0) (B := 6) rfl rfl (by omega) (by omega) (by decide)) (by rw [h9]; decide)) H.size) (va_cwS 2 hts gX11_earnest_X11_areTens rfl rfl rfl (by decide +kernel) ⟨Nat.le_of_ble_eq_true rfl, Nat.le_of_ble_eq_true rfl⟩) (he_preS (wc := []) hK hP hD hS hA hE [] rfl rfl) rfl rfl hl.1 rfl (lv_room (Nat.le_of_ble_eq_true rfl)) dX11_earnest_8 ⟨(Nat.le_of_ble_eq_true rfl), (Nat.le_of_ble_eq_true rfl)⟩) hP hD hS hA [] [0, 1] rfl rfl rfl (by decide) (fun r_1 u_2 H locs h_3 hP hD hS => ?_)
  subst h_3
  have hP : va_P g.1 vwCl [(m0, .inr (10, [.int 0, .int 0, .int 0, .int (-1), .int 0, .int 0, .int 0, .int 0, .ref fd, .ref rfm, .ref rt_, .ref to_, .ref rw_, .ref wa, .int 0, .ref rk, .ref rb, .ref cn, .ref br, .ref sm, .ref as_, .ref go, .ref sh_, .int 0, .int 1, .int 1, .int 0, .int 0, .int 0, .ref ki, .ref tg, .ref of_, .ref kp, .int 0, .ref rs])), (to_, .inl (g.2 1, 25, .inl tl))] H := hP
  have hD : va_D A [(m0, .inr (10, [.int 0, .int 0, .int 0, .int (-1), .int 0, .int 0, .int 0, .int 0, .ref fd, .ref rfm, .ref rt_, .ref to_, .ref rw_, .ref wa, .int 0, .ref rk, .ref rb, .ref cn, .ref br, .ref sm, .ref as_, .ref go, .ref sh_, .int 0, .int 1, .int 1, .int 0, .int 0, .int 0, .ref ki, .ref tg, .ref of_, .ref kp, .int 0, .ref rs])), (to_, .inl (g.2 1, 25, .inl tl))] := hD
  refine lv_if_eq (tgt := 23) hx hb dX11_earnest_11 (by decide) (fun c_4 => ?_) (fun c_4 => ?_)
  · exact absurd c_4 (by decide)
  · refine lv_iload_n hx hb dX11_earnest_14 rfl (lv_at hl 3 rfl) ?_
    refine lv_iconst (v := 0) hx hb dX11_earnest_15 (by decide) ?_
    refine lv_iconst (v := 1) hx hb dX11_earnest_16 (by decide) ?_
    refine he_ci (wc := []) (wr := [(m0, .inr (10, [.int 0, .int 0, .int 0, .int (-1), .int 0, .int 0, .int 0, .int 0, .ref fd, .ref rfm, .ref rt_, .ref to_, .ref rw_, .ref wa, .int 0, .ref rk, .ref rb, .ref cn, .ref br, .ref sm, .ref as_, .ref go, .ref sh_, .int 0, .int 1, .int 1, .int 0, .int 0, .int 0, .ref ki, .ref tg, .ref of_, .ref kp, .int 0, .ref rs])), (to_, .inl (g.2 1, 25, .inl tl))]) (va_runS (As := [.int 0, .int 0, .int 1]) (rest := [.ref m0]) ⟨hx, hb, hml, hown, hts⟩ (c_X11_in l g 0 0 1 H.size) (va_cwS 3 hts gX11_earnest_X11_in rfl rfl rfl (by decide +kernel) ⟨Nat.le_of_ble_eq_true rfl, Nat.le_of_ble_eq_true rfl⟩) (he_preS (wc := []) hK hP hD hS hA hE [] rfl rfl) rfl rfl hl.1 rfl (lv_room (Nat.le_of_ble_eq_true rfl)) dX11_earnest_17 ⟨(Nat.le_of_ble_eq_true rfl), (Nat.le_of_ble_eq_true rfl)⟩) hP hD hS hA [] [0, 1] rfl rfl rfl (by decide) (fun r_5 u_6 H locs h_7 hP hD hS => ?_)
    subst h_7
    have hP : va_P g.1 vwCl [(m0, .inr (10, [.int 0, .int 0, .int 0, .int (-1), .int 0, .int 0, .int 0, .int 0, .ref fd, .ref rfm, .ref rt_, .ref to_, .ref rw_, .ref wa, .int 0, .ref rk, .ref rb, .ref cn, .ref br, .ref sm, .ref as_, .ref go, .ref sh_, .int 0, .int 1, .int 1, .int 0, .int 0, .int 0, .ref ki, .ref tg, .ref of_, .ref kp, .int 0, .ref rs])), (to_, .inl (g.2 1, 25, .inl tl))] H := hP
    have hD : va_D A [(m0, .inr (10, [.int 0, .int 0, .int 0, .int (-1), .int 0, .int 0, .int 0, .int 0, .ref fd, .ref rfm, .ref rt_, .ref to_, .ref rw_, .ref wa, .int 0, .ref rk, .ref rb, .ref cn, .ref br, .ref sm, .ref as_, .ref go, .ref sh_, .int 0, .int 1, .int 1, .int 0, .int 0, .int 0, .ref ki, .ref tg, .ref of_, .ref kp, .int 0, .ref rs])), (to_, .inl (g.2 1, 25, .inl tl))] := hD
    refine he_top (1) (by decide) ?_
    refine lv_if_ne (tgt := 27) hx hb dX11_earnest_20 (by decide) (fun c_8 => ?_) (fun c_8 => ?_)
    · refine lv_iconst (v := 0) hx hb dX11_earnest_27 (by decide) ?_
      refine lv_iconst (v := 1) hx hb dX11_earnest_28 (by decide) ?_
      refine lv_iconst (v := 2) hx hb dX11_earnest_29 (by decide) ?_
      refine he_ci (wc := [(m0, .inr (10, [.int 0, .int 0, .int 0, .int (-1), .int 0, .int 0, .int 0, .int 0, .ref fd, .ref rfm, .ref rt_, .ref to_, .ref rw_, .ref wa, .int 0, .ref rk, .ref rb, .ref cn, .ref br, .ref sm, .ref as_, .ref go, .ref sh_, .int 0, .int 1, .int 1, .int 0, .int 0, .int 0, .ref ki, .ref tg, .ref of_, .ref kp, .int 0, .ref rs]))]) (wr := [(to_, .inl (g.2 1, 25, .inl tl))]) (va_runV (As := [.int 0, .int 1, .int 2]) (rest := []) ⟨hx, hb, hml, hown, hts⟩ (c_X11_bad0 l g m0 fd rfm rt_ to_ rw_ wa rk rb cn br sm as_ go sh_ ki tg of_ kp rs 0 0 (-1) 0 0 0 0 0 0 1 1 0 0 0 0 1 2 H.size) (cwV 3 hts gX11_earnest_X11_bad rfl rfl rfl (by decide +kernel) ⟨Nat.le_of_ble_eq_true rfl, Nat.le_of_ble_eq_true rfl⟩) (he_preV (wc := [(m0, .inr (10, [.int 0, .int 0, .int 0, .int (-1), .int 0, .int 0, .int 0, .int 0, .ref fd, .ref rfm, .ref rt_, .ref to_, .ref rw_, .ref wa, .int 0, .ref rk, .ref rb, .ref cn, .ref br, .ref sm, .ref as_, .ref go, .ref sh_, .int 0, .int 1, .int 1, .int 0, .int 0, .int 0, .ref ki, .ref tg, .ref of_, .ref kp, .int 0, .ref rs]))]) hK hP hD hS hA hE [0] rfl rfl 0 rfl rfl) rfl rfl hl.1 rfl (lv_room (Nat.le_of_ble_eq_true rfl)) dX11_earnest_30 ⟨(Nat.le_of_ble_eq_true rfl), (Nat.le_of_ble_eq_true rfl)⟩) hP hD hS hA [0] [1] rfl rfl rfl (by decide) (fun r_9 u_10 H locs h_11 hP hD hS => ?_)
      subst h_11
      have hP : va_P g.1 vwCl [(to_, .inl (g.2 1, 25, .inl tl)), (m0, .inr (10, [.int 0, .int 0, .int 0, .int (-1), .int 0, .int 0, .int 0, .int 0, .ref fd, .ref rfm, .ref rt_, .ref to_, .ref rw_, .ref wa, .int 0, .ref rk, .ref rb, .ref cn, .ref br, .ref sm, .ref as_, .ref go, .ref sh_, .int 0, .int 1, .int 1, .int 0, .int 0, .int 0, .ref ki, .ref tg, .ref of_, .ref kp, .int 0, .ref rs]))] H := hP
      have hD : va_D A [(to_, .inl (g.2 1, 25, .inl tl)), (m0, .inr (10, [.int 0, .int 0, .int 0, .int (-1), .int 0, .int 0, .int 0, .int 0, .ref fd, .ref rfm, .ref rt_, .ref to_, .ref rw_, .ref wa, .int 0, .ref rk, .ref rb, .ref cn, .ref br, .ref sm, .ref as_, .ref go, .ref sh_, .int 0, .int 1, .int 1, .int 0, .int 0, .int 0, .ref ki, .ref tg, .ref of_, .ref kp, .int 0, .ref rs]))] := hD
      refine lv_if_eq (tgt := 38) hx hb dX11_earnest_33 (by decide) (fun c_12 => ?_) (fun c_12 => ?_)
      · refine lv_iload_n hx hb dX11_earnest_38 rfl (lv_at hl 3 rfl) ?_
        refine lv_if_ne (tgt := 55) hx hb dX11_earnest_39 (by decide) (fun c_13 => ?_) (fun c_13 => ?_)
        · exact absurd (by decide) c_13
        · refine lv_aload_n hx hb dX11_earnest_42 rfl (lv_at hl 0 rfl) ?_
          refine lv_iload_n hx hb dX11_earnest_43 rfl (lv_at hl 1 rfl) ?_
          refine lv_iload_n hx hb dX11_earnest_44 rfl (lv_at hl 2 rfl) ?_
          refine lv_aload_n hx hb dX11_earnest_45 rfl (lv_at hl 0 rfl) ?_
          refine he_ci (wc := [(m0, .inr (10, [.int 0, .int 0, .int 0, .int (-1), .int 0, .int 0, .int 0, .int 0, .ref fd, .ref rfm, .ref rt_, .ref to_, .ref rw_, .ref wa, .int 0, .ref rk, .ref rb, .ref cn, .ref br, .ref sm, .ref as_, .ref go, .ref sh_, .int 0, .int 1, .int 1, .int 0, .int 0, .int 0, .ref ki, .ref tg, .ref of_, .ref kp, .int 0, .ref rs])), (to_, .inl (g.2 1, 25, .inl tl))]) (wr := []) (va_runV (As := []) (rest := [.int (nI d), .int (nI a), .ref m0]) ⟨hx, hb, hml, hown, hts⟩ (c_X11_firstWalls0 l g m0 fd rfm rt_ to_ rw_ wa rk rb cn br sm as_ go sh_ ki tg of_ kp rs 0 0 (-1) 0 0 0 0 0 0 1 1 0 0 0 0 0 tl (by first | assumption | decide | omega) H.size) (cwV 0 hts gX11_earnest_X11_firstWalls rfl rfl rfl (by decide +kernel) ⟨Nat.le_of_ble_eq_true rfl, Nat.le_of_ble_eq_true rfl⟩) (he_preV (wc := [(m0, .inr (10, [.int 0, .int 0, .int 0, .int (-1), .int 0, .int 0, .int 0, .int 0, .ref fd, .ref rfm, .ref rt_, .ref to_, .ref rw_, .ref wa, .int 0, .ref rk, .ref rb, .ref cn, .ref br, .ref sm, .ref as_, .ref go, .ref sh_, .int 0, .int 1, .int 1, .int 0, .int 0, .int 0, .ref ki, .ref tg, .ref of_, .ref kp, .int 0, .ref rs])), (to_, .inl (g.2 1, 25, .inl tl))]) hK hP hD hS hA hE [1, 0] rfl rfl 1 rfl rfl) rfl rfl hl.1 rfl (lv_room (Nat.le_of_ble_eq_true rfl)) dX11_earnest_46 ⟨(Nat.le_of_ble_eq_true rfl), (Nat.le_of_ble_eq_true rfl)⟩) hP hD hS hA [1, 0] [] rfl rfl rfl (by decide) (fun r_14 u_15 H locs h_16 hP hD hS => ?_)
          subst h_16
          have hP : va_P g.1 vwCl [(m0, .inr (10, [.int 0, .int 0, .int 0, .int (-1), .int 0, .int 0, .int 0, .int 0, .ref fd, .ref rfm, .ref rt_, .ref to_, .ref rw_, .ref wa, .int 0, .ref rk, .ref rb, .ref cn, .ref br, .ref sm, .ref as_, .ref go, .ref sh_, .int 0, .int 1, .int 1, .int 0, .int 0, .int 0, .ref ki, .ref tg, .ref of_, .ref kp, .int 0, .ref rs])), (to_, .inl (g.2 1, 25, .inl tl))] H := hP
          have hD : va_D A [(m0, .inr (10, [.int 0, .int 0, .int 0, .int (-1), .int 0, .int 0, .int 0, .int 0, .ref fd, .ref rfm, .ref rt_, .ref to_, .ref rw_, .ref wa, .int 0, .ref rk, .ref rb, .ref cn, .ref br, .ref sm, .ref as_, .ref go, .ref sh_, .int 0, .int 1, .int 1, .int 0, .int 0, .int 0, .ref ki, .ref tg, .ref of_, .ref kp, .int 0, .ref rs])), (to_, .inl (g.2 1, 25, .inl tl))] := hD
          refine he_ci (wc := [(m0, .inr (10, [.int 0, .int 0, .int 0, .int (-1), .int 0, .int 0, .int 0, .int 0, .ref fd, .ref rfm, .ref rt_, .ref to_, .ref rw_, .ref wa, .int 0, .ref rk, .ref rb, .ref cn, .ref br, .ref sm, .ref as_, .ref go, .ref sh_, .int 0, .int 1, .int 1, .int 0, .int 0, .int 0, .ref ki, .ref tg, .ref of_, .ref kp, .int 0, .ref rs]))]) (wr := [(to_, .inl (g.2 1, 25, .inl tl))]) (va_runV (As := [.int (nI a), .int (nI d), .int 0]) (rest := []) ⟨hx, hb, hml, hown, hts⟩ (c_X11_safeBy0 l g m0 fd rfm rt_ to_ rw_ wa rk rb cn br sm as_ go sh_ ki tg of_ kp rs 0 0 (-1) 0 0 0 0 0 0 1 1 0 0 0 0 0 (nI a) (nI d) H.size) (cwV 3 hts gX11_earnest_X11_safeBy rfl rfl rfl (by decide +kernel) ⟨Nat.le_of_ble_eq_true rfl, Nat.le_of_ble_eq_true rfl⟩) (he_preV (wc := [(m0, .inr (10, [.int 0, .int 0, .int 0, .int (-1), .int 0, .int 0, .int 0, .int 0, .ref fd, .ref rfm, .ref rt_, .ref to_, .ref rw_, .ref wa, .int 0, .ref rk, .ref rb, .ref cn, .ref br, .ref sm, .ref as_, .ref go, .ref sh_, .int 0, .int 1, .int 1, .int 0, .int 0, .int 0, .ref ki, .ref tg, .ref of_, .ref kp, .int 0, .ref rs]))]) hK hP hD hS hA hE [0] rfl rfl 0 rfl rfl) rfl rfl hl.1 rfl (lv_room (Nat.le_of_ble_eq_true rfl)) dX11_earnest_49 ⟨(Nat.le_of_ble_eq_true rfl), (Nat.le_of_ble_eq_true rfl)⟩) hP hD hS hA [0] [1] rfl rfl rfl (by decide) (fun r_17 u_18 H locs h_19 hP hD hS => ?_)
          obtain ⟨sr_20, rfl⟩ : ∃ z, z = u_18 := ⟨_, rfl⟩
          subst h_19
          have hP : va_P g.1 vwCl [(to_, .inl (g.2 1, 25, .inl tl)), (m0, .inr (10, [.int 0, .int 0, .int 0, .int (-1), .int 0, .int 0, .int 0, .int 0, .ref fd, .ref rfm, .ref rt_, .ref to_, .ref rw_, .ref wa, .int 0, .ref rk, .ref rb, .ref cn, .ref br, .ref sm, .ref as_, .ref go, .ref sh_, .int 0, .int 1, .int 1, .int 0, .int 0, .int 0, .ref ki, .ref tg, .ref of_, .ref kp, .int sr_20, .ref rs]))] H := hP
          have hD : va_D A [(to_, .inl (g.2 1, 25, .inl tl)), (m0, .inr (10, [.int 0, .int 0, .int 0, .int (-1), .int 0, .int 0, .int 0, .int 0, .ref fd, .ref rfm, .ref rt_, .ref to_, .ref rw_, .ref wa, .int 0, .ref rk, .ref rb, .ref cn, .ref br, .ref sm, .ref as_, .ref go, .ref sh_, .int 0, .int 1, .int 1, .int 0, .int 0, .int 0, .ref ki, .ref tg, .ref of_, .ref kp, .int sr_20, .ref rs]))] := hD
          refine lv_goto (tgt := 65) hx hb dX11_earnest_52 (by decide) ?_
          have hP := hP.sub (ws' := [(m0, .inr (10, [.int 0, .int 0, .int 0, .int (-1), .int 0, .int 0, .int 0, .int 0, .ref fd, .ref rfm, .ref rt_, .ref to_, .ref rw_, .ref wa, .int 0, .ref rk, .ref rb, .ref cn, .ref br, .ref sm, .ref as_, .ref go, .ref sh_, .int 0, .int 1, .int 1, .int 0, .int 0, .int 0, .ref ki, .ref tg, .ref of_, .ref kp, .int sr_20, .ref rs]))]) [1] rfl
          have hD := hD.sub (ws' := [(m0, .inr (10, [.int 0, .int 0, .int 0, .int (-1), .int 0, .int 0, .int 0, .int 0, .ref fd, .ref rfm, .ref rt_, .ref to_, .ref rw_, .ref wa, .int 0, .ref rk, .ref rb, .ref cn, .ref br, .ref sm, .ref as_, .ref go, .ref sh_, .int 0, .int 1, .int 1, .int 0, .int 0, .int 0, .ref ki, .ref tg, .ref of_, .ref kp, .int sr_20, .ref rs]))]) [1] (by decide) rfl
          exact he_ri hQ hx hb hr hlk hP hD hS dX11_earnest_65 (Nat.le_of_ble_eq_true rfl) (Nat.le_of_ble_eq_true rfl) (sr_20) (rfl) (rfl)
      · exact absurd (by decide) c_12
    · exact absurd c_8 (by decide)
set_option maxHeartbeats 4000000 in
set_option maxRecDepth 100000 in
theorem c_X11_earnest1 (l : Launch) (g : he_G) (m0 : Nat) (fd : Nat) (rfm : Nat) (rt_ : Nat) (to_ : Nat) (rw_ : Nat) (wa : Nat) (rk : Nat) (rb : Nat) (cn : Nat) (br : Nat) (sm : Nat) (as_ : Nat) (go : Nat) (sh_ : Nat) (ki : Nat) (tg : Nat) (of_ : Nat) (kp : Nat) (rs : Nat) (tl : Nat → Int32) (a : Nat) (d : Nat) (ha6 : a ≤ 6) (hd6 : d ≤ 6) (ht0 : tl 0 = 0) : he_I l yX11_earnest wsX11_earnest 3 72 0 0 g [.ref m0, .int (nI a), .int (nI d), .int 1] [(m0, .inr (10, [.int 0, .int 0, .int 0, .int (-1), .int 0, .int 0, .int 0, .int 0, .ref fd, .ref rfm, .ref rt_, .ref to_, .ref rw_, .ref wa, .int 0, .ref rk, .ref rb, .ref cn, .ref br, .ref sm, .ref as_, .ref go, .ref sh_, .int 0, .int 1, .int 1, .int 0, .int 0, .int 0, .ref ki, .ref tg, .ref of_, .ref kp, .int 0, .ref rs])), (to_, .inl (g.2 1, 25, .inl tl))] (fun (r : Int32) (u : Unit) => r = 0) (fun (u : Unit) => [(m0, .inr (10, [.int 0, .int 0, .int 0, .int (-1), .int 0, .int 0, .int 0, .int 0, .ref fd, .ref rfm, .ref rt_, .ref to_, .ref rw_, .ref wa, .int 0, .ref rk, .ref rb, .ref cn, .ref br, .ref sm, .ref as_, .ref go, .ref sh_, .int 0, .int 1, .int 1, .int 0, .int 0, .int 0, .ref ki, .ref tg, .ref of_, .ref kp, .int 0, .ref rs]))]) := by
  refine he_begin (l := l) (g := g) (y := yX11_earnest) (wl := wsX11_earnest) (fr := 3) (lo := 72) (mc := 0) (ms := 0) (av := [.ref m0, .int (nI a), .int (nI d), .int 1]) (ws := [(m0, .inr (10, [.int 0, .int 0, .int 0, .int (-1), .int 0, .int 0, .int 0, .int 0, .ref fd, .ref rfm, .ref rt_, .ref to_, .ref rw_, .ref wa, .int 0, .ref rk, .ref rb, .ref cn, .ref br, .ref sm, .ref as_, .ref go, .ref sh_, .int 0, .int 1, .int 1, .int 0, .int 0, .int 0, .ref ki, .ref tg, .ref of_, .ref kp, .int 0, .ref rs])), (to_, .inl (g.2 1, 25, .inl tl))]) (cc := cX11_earnest) (maxL := 4) (ret := (some .int)) (fun A => va_Qi (fun (r : Int32) (u : Unit) => r = 0) (fun u t => he_post g A ((fun (u : Unit) => [(m0, .inr (10, [.int 0, .int 0, .int 0, .int (-1), .int 0, .int 0, .int 0, .int 0, .ref fd, .ref rfm, .ref rt_, .ref to_, .ref rw_, .ref wa, .int 0, .ref rk, .ref rb, .ref cn, .ref br, .ref sm, .ref as_, .ref go, .ref sh_, .int 0, .int 1, .int 1, .int 0, .int 0, .int 0, .ref ki, .ref tg, .ref of_, .ref kp, .int 0, .ref rs]))]) u) t) A) (by decide) rfl (Nat.le_of_ble_eq_true rfl) ?_
  intro p e s m args below meth c A ls H locs Q hQ hB
  obtain ⟨hx, hb, hr, hml, hown, hts, hlk, hin, hP, hK, hD, hS, hA, hE, hl⟩ := hB
  have hl : lv_has ls 4 [(0, .ref m0), (1, .int (nI a)), (2, .int (nI d)), (3, .int 1)] := hl
  have f85 := hts (.fieldLink RX11 85 "HiredEnemyModel" "thrown" "I") (by decide +kernel)
  have inX11 : ∀ w ∈ wsX110, w ∈ wsX11_earnest := by decide +kernel
  refine lv_aload_n hx hb dX11_earnest_0 rfl (lv_at hl 0 rfl) ?_
  refine lv_iconst (v := 0) hx hb dX11_earnest_1 (by decide) ?_
  refine va_put (v := .int 0) (ty := .int) (T := TX11) (N := 35) hx hb hts inX11 tyX11 tyX11_ok nmX11 hown hK hP hD hS 0 rfl rfl 0 (by decide) f85 (fun _ h9 => h9) rfl (by decide +kernel) rfl rfl (Nat.le_of_ble_eq_true rfl) dX11_earnest_2 (fun H locs hP hD hS => ?_)
  have hP : va_P g.1 vwCl [(m0, .inr (10, [.int 0, .int 0, .int 0, .int (-1), .int 0, .int 0, .int 0, .int 0, .ref fd, .ref rfm, .ref rt_, .ref to_, .ref rw_, .ref wa, .int 0, .ref rk, .ref rb, .ref cn, .ref br, .ref sm, .ref as_, .ref go, .ref sh_, .int 0, .int 1, .int 1, .int 0, .int 0, .int 0, .ref ki, .ref tg, .ref of_, .ref kp, .int 0, .ref rs])), (to_, .inl (g.2 1, 25, .inl tl))] H := hP
  have hD : va_D A [(m0, .inr (10, [.int 0, .int 0, .int 0, .int (-1), .int 0, .int 0, .int 0, .int 0, .ref fd, .ref rfm, .ref rt_, .ref to_, .ref rw_, .ref wa, .int 0, .ref rk, .ref rb, .ref cn, .ref br, .ref sm, .ref as_, .ref go, .ref sh_, .int 0, .int 1, .int 1, .int 0, .int 0, .int 0, .ref ki, .ref tg, .ref of_, .ref kp, .int 0, .ref rs])), (to_, .inl (g.2 1, 25, .inl tl))] := hD
  refine lv_aload_n hx hb dX11_earnest_5 rfl (lv_at hl 0 rfl) ?_
  refine lv_iload_n hx hb dX11_earnest_6 rfl (lv_at hl 1 rfl) ?_
  refine lv_iload_n hx hb dX11_earnest_7 rfl (lv_at hl 2 rfl) ?_
  refine he_ci (wc := []) (wr := [(m0, .inr (10, [.int 0, .int 0, .int 0, .int (-1), .int 0, .int 0, .int 0, .int 0, .ref fd, .ref rfm, .ref rt_, .ref to_, .ref rw_, .ref wa, .int 0, .ref rk, .ref rb, .ref cn, .ref br, .ref sm, .ref as_, .ref go, .ref sh_, .int 0, .int 1, .int 1, .int 0, .int 0, .int 0, .ref ki, .ref tg, .ref of_, .ref kp, .int 0, .ref rs])), (to_, .inl (g.2 1, 25, .inl tl))]) (va_runS (As := [.int (nI a), .int (nI d)]) (rest := [.ref m0]) ⟨hx, hb, hml, hown, hts⟩ (c_X11_areTens1 l g (nI a) (nI d) (fun h9 => absurd (he_within_in (k := a) (a := 0) (b := 6) (a0 := 0) (B := 6) rfl rfl (by omega) (by omega) (by decide)) (by rw [h9]; decide)) (fun h9 => absurd (he_within_in (k := d) (a := 0) (b := 6) (a0 := 0) (B := 6) rfl rfl (by omega) (by omega) (by decide)) (by rw [h9]; decide)) H.size) (va_cwS 2 hts gX11_earnest_X11_areTens rfl rfl rfl (by decide +kernel) ⟨Nat.le_of_ble_eq_true rfl, Nat.le_of_ble_eq_true rfl⟩) (he_preS (wc := []) hK hP hD hS hA hE [] rfl rfl) rfl rfl hl.1 rfl (lv_room (Nat.le_of_ble_eq_true rfl)) dX11_earnest_8 ⟨(Nat.le_of_ble_eq_true rfl), (Nat.le_of_ble_eq_true rfl)⟩) hP hD hS hA [] [0, 1] rfl rfl rfl (by decide) (fun r_1 u_2 H locs h_3 hP hD hS => ?_)
  subst h_3
  have hP : va_P g.1 vwCl [(m0, .inr (10, [.int 0, .int 0, .int 0, .int (-1), .int 0, .int 0, .int 0, .int 0, .ref fd, .ref rfm, .ref rt_, .ref to_, .ref rw_, .ref wa, .int 0, .ref rk, .ref rb, .ref cn, .ref br, .ref sm, .ref as_, .ref go, .ref sh_, .int 0, .int 1, .int 1, .int 0, .int 0, .int 0, .ref ki, .ref tg, .ref of_, .ref kp, .int 0, .ref rs])), (to_, .inl (g.2 1, 25, .inl tl))] H := hP
  have hD : va_D A [(m0, .inr (10, [.int 0, .int 0, .int 0, .int (-1), .int 0, .int 0, .int 0, .int 0, .ref fd, .ref rfm, .ref rt_, .ref to_, .ref rw_, .ref wa, .int 0, .ref rk, .ref rb, .ref cn, .ref br, .ref sm, .ref as_, .ref go, .ref sh_, .int 0, .int 1, .int 1, .int 0, .int 0, .int 0, .ref ki, .ref tg, .ref of_, .ref kp, .int 0, .ref rs])), (to_, .inl (g.2 1, 25, .inl tl))] := hD
  refine lv_if_eq (tgt := 23) hx hb dX11_earnest_11 (by decide) (fun c_4 => ?_) (fun c_4 => ?_)
  · exact absurd c_4 (by decide)
  · refine lv_iload_n hx hb dX11_earnest_14 rfl (lv_at hl 3 rfl) ?_
    refine lv_iconst (v := 0) hx hb dX11_earnest_15 (by decide) ?_
    refine lv_iconst (v := 1) hx hb dX11_earnest_16 (by decide) ?_
    refine he_ci (wc := []) (wr := [(m0, .inr (10, [.int 0, .int 0, .int 0, .int (-1), .int 0, .int 0, .int 0, .int 0, .ref fd, .ref rfm, .ref rt_, .ref to_, .ref rw_, .ref wa, .int 0, .ref rk, .ref rb, .ref cn, .ref br, .ref sm, .ref as_, .ref go, .ref sh_, .int 0, .int 1, .int 1, .int 0, .int 0, .int 0, .ref ki, .ref tg, .ref of_, .ref kp, .int 0, .ref rs])), (to_, .inl (g.2 1, 25, .inl tl))]) (va_runS (As := [.int 1, .int 0, .int 1]) (rest := [.ref m0]) ⟨hx, hb, hml, hown, hts⟩ (c_X11_in l g 1 0 1 H.size) (va_cwS 3 hts gX11_earnest_X11_in rfl rfl rfl (by decide +kernel) ⟨Nat.le_of_ble_eq_true rfl, Nat.le_of_ble_eq_true rfl⟩) (he_preS (wc := []) hK hP hD hS hA hE [] rfl rfl) rfl rfl hl.1 rfl (lv_room (Nat.le_of_ble_eq_true rfl)) dX11_earnest_17 ⟨(Nat.le_of_ble_eq_true rfl), (Nat.le_of_ble_eq_true rfl)⟩) hP hD hS hA [] [0, 1] rfl rfl rfl (by decide) (fun r_5 u_6 H locs h_7 hP hD hS => ?_)
    subst h_7
    have hP : va_P g.1 vwCl [(m0, .inr (10, [.int 0, .int 0, .int 0, .int (-1), .int 0, .int 0, .int 0, .int 0, .ref fd, .ref rfm, .ref rt_, .ref to_, .ref rw_, .ref wa, .int 0, .ref rk, .ref rb, .ref cn, .ref br, .ref sm, .ref as_, .ref go, .ref sh_, .int 0, .int 1, .int 1, .int 0, .int 0, .int 0, .ref ki, .ref tg, .ref of_, .ref kp, .int 0, .ref rs])), (to_, .inl (g.2 1, 25, .inl tl))] H := hP
    have hD : va_D A [(m0, .inr (10, [.int 0, .int 0, .int 0, .int (-1), .int 0, .int 0, .int 0, .int 0, .ref fd, .ref rfm, .ref rt_, .ref to_, .ref rw_, .ref wa, .int 0, .ref rk, .ref rb, .ref cn, .ref br, .ref sm, .ref as_, .ref go, .ref sh_, .int 0, .int 1, .int 1, .int 0, .int 0, .int 0, .ref ki, .ref tg, .ref of_, .ref kp, .int 0, .ref rs])), (to_, .inl (g.2 1, 25, .inl tl))] := hD
    refine he_top (1) (by decide) ?_
    refine lv_if_ne (tgt := 27) hx hb dX11_earnest_20 (by decide) (fun c_8 => ?_) (fun c_8 => ?_)
    · refine lv_iconst (v := 0) hx hb dX11_earnest_27 (by decide) ?_
      refine lv_iconst (v := 1) hx hb dX11_earnest_28 (by decide) ?_
      refine lv_iconst (v := 2) hx hb dX11_earnest_29 (by decide) ?_
      refine he_ci (wc := [(m0, .inr (10, [.int 0, .int 0, .int 0, .int (-1), .int 0, .int 0, .int 0, .int 0, .ref fd, .ref rfm, .ref rt_, .ref to_, .ref rw_, .ref wa, .int 0, .ref rk, .ref rb, .ref cn, .ref br, .ref sm, .ref as_, .ref go, .ref sh_, .int 0, .int 1, .int 1, .int 0, .int 0, .int 0, .ref ki, .ref tg, .ref of_, .ref kp, .int 0, .ref rs]))]) (wr := [(to_, .inl (g.2 1, 25, .inl tl))]) (va_runV (As := [.int 0, .int 1, .int 2]) (rest := []) ⟨hx, hb, hml, hown, hts⟩ (c_X11_bad0 l g m0 fd rfm rt_ to_ rw_ wa rk rb cn br sm as_ go sh_ ki tg of_ kp rs 0 0 (-1) 0 0 0 0 0 0 1 1 0 0 0 0 1 2 H.size) (cwV 3 hts gX11_earnest_X11_bad rfl rfl rfl (by decide +kernel) ⟨Nat.le_of_ble_eq_true rfl, Nat.le_of_ble_eq_true rfl⟩) (he_preV (wc := [(m0, .inr (10, [.int 0, .int 0, .int 0, .int (-1), .int 0, .int 0, .int 0, .int 0, .ref fd, .ref rfm, .ref rt_, .ref to_, .ref rw_, .ref wa, .int 0, .ref rk, .ref rb, .ref cn, .ref br, .ref sm, .ref as_, .ref go, .ref sh_, .int 0, .int 1, .int 1, .int 0, .int 0, .int 0, .ref ki, .ref tg, .ref of_, .ref kp, .int 0, .ref rs]))]) hK hP hD hS hA hE [0] rfl rfl 0 rfl rfl) rfl rfl hl.1 rfl (lv_room (Nat.le_of_ble_eq_true rfl)) dX11_earnest_30 ⟨(Nat.le_of_ble_eq_true rfl), (Nat.le_of_ble_eq_true rfl)⟩) hP hD hS hA [0] [1] rfl rfl rfl (by decide) (fun r_9 u_10 H locs h_11 hP hD hS => ?_)
      subst h_11
      have hP : va_P g.1 vwCl [(to_, .inl (g.2 1, 25, .inl tl)), (m0, .inr (10, [.int 0, .int 0, .int 0, .int (-1), .int 0, .int 0, .int 0, .int 0, .ref fd, .ref rfm, .ref rt_, .ref to_, .ref rw_, .ref wa, .int 0, .ref rk, .ref rb, .ref cn, .ref br, .ref sm, .ref as_, .ref go, .ref sh_, .int 0, .int 1, .int 1, .int 0, .int 0, .int 0, .ref ki, .ref tg, .ref of_, .ref kp, .int 0, .ref rs]))] H := hP
      have hD : va_D A [(to_, .inl (g.2 1, 25, .inl tl)), (m0, .inr (10, [.int 0, .int 0, .int 0, .int (-1), .int 0, .int 0, .int 0, .int 0, .ref fd, .ref rfm, .ref rt_, .ref to_, .ref rw_, .ref wa, .int 0, .ref rk, .ref rb, .ref cn, .ref br, .ref sm, .ref as_, .ref go, .ref sh_, .int 0, .int 1, .int 1, .int 0, .int 0, .int 0, .ref ki, .ref tg, .ref of_, .ref kp, .int 0, .ref rs]))] := hD
      refine lv_if_eq (tgt := 38) hx hb dX11_earnest_33 (by decide) (fun c_12 => ?_) (fun c_12 => ?_)
      · refine lv_iload_n hx hb dX11_earnest_38 rfl (lv_at hl 3 rfl) ?_
        refine lv_if_ne (tgt := 55) hx hb dX11_earnest_39 (by decide) (fun c_13 => ?_) (fun c_13 => ?_)
        · refine lv_aload_n hx hb dX11_earnest_55 rfl (lv_at hl 0 rfl) ?_
          refine lv_iload_n hx hb dX11_earnest_56 rfl (lv_at hl 1 rfl) ?_
          refine lv_iload_n hx hb dX11_earnest_57 rfl (lv_at hl 2 rfl) ?_
          refine lv_aload_n hx hb dX11_earnest_58 rfl (lv_at hl 0 rfl) ?_
          refine he_ci (wc := [(m0, .inr (10, [.int 0, .int 0, .int 0, .int (-1), .int 0, .int 0, .int 0, .int 0, .ref fd, .ref rfm, .ref rt_, .ref to_, .ref rw_, .ref wa, .int 0, .ref rk, .ref rb, .ref cn, .ref br, .ref sm, .ref as_, .ref go, .ref sh_, .int 0, .int 1, .int 1, .int 0, .int 0, .int 0, .ref ki, .ref tg, .ref of_, .ref kp, .int 0, .ref rs])), (to_, .inl (g.2 1, 25, .inl tl))]) (wr := []) (va_runV (As := []) (rest := [.int (nI d), .int (nI a), .ref m0]) ⟨hx, hb, hml, hown, hts⟩ (c_X11_firstWalls0 l g m0 fd rfm rt_ to_ rw_ wa rk rb cn br sm as_ go sh_ ki tg of_ kp rs 0 0 (-1) 0 0 0 0 0 0 1 1 0 0 0 0 0 tl (by first | assumption | decide | omega) H.size) (cwV 0 hts gX11_earnest_X11_firstWalls rfl rfl rfl (by decide +kernel) ⟨Nat.le_of_ble_eq_true rfl, Nat.le_of_ble_eq_true rfl⟩) (he_preV (wc := [(m0, .inr (10, [.int 0, .int 0, .int 0, .int (-1), .int 0, .int 0, .int 0, .int 0, .ref fd, .ref rfm, .ref rt_, .ref to_, .ref rw_, .ref wa, .int 0, .ref rk, .ref rb, .ref cn, .ref br, .ref sm, .ref as_, .ref go, .ref sh_, .int 0, .int 1, .int 1, .int 0, .int 0, .int 0, .ref ki, .ref tg, .ref of_, .ref kp, .int 0, .ref rs])), (to_, .inl (g.2 1, 25, .inl tl))]) hK hP hD hS hA hE [1, 0] rfl rfl 1 rfl rfl) rfl rfl hl.1 rfl (lv_room (Nat.le_of_ble_eq_true rfl)) dX11_earnest_59 ⟨(Nat.le_of_ble_eq_true rfl), (Nat.le_of_ble_eq_true rfl)⟩) hP hD hS hA [1, 0] [] rfl rfl rfl (by decide) (fun r_14 u_15 H locs h_16 hP hD hS => ?_)
          subst h_16
          have hP : va_P g.1 vwCl [(m0, .inr (10, [.int 0, .int 0, .int 0, .int (-1), .int 0, .int 0, .int 0, .int 0, .ref fd, .ref rfm, .ref rt_, .ref to_, .ref rw_, .ref wa, .int 0, .ref rk, .ref rb, .ref cn, .ref br, .ref sm, .ref as_, .ref go, .ref sh_, .int 0, .int 1, .int 1, .int 0, .int 0, .int 0, .ref ki, .ref tg, .ref of_, .ref kp, .int 0, .ref rs])), (to_, .inl (g.2 1, 25, .inl tl))] H := hP
          have hD : va_D A [(m0, .inr (10, [.int 0, .int 0, .int 0, .int (-1), .int 0, .int 0, .int 0, .int 0, .ref fd, .ref rfm, .ref rt_, .ref to_, .ref rw_, .ref wa, .int 0, .ref rk, .ref rb, .ref cn, .ref br, .ref sm, .ref as_, .ref go, .ref sh_, .int 0, .int 1, .int 1, .int 0, .int 0, .int 0, .ref ki, .ref tg, .ref of_, .ref kp, .int 0, .ref rs])), (to_, .inl (g.2 1, 25, .inl tl))] := hD
          refine he_ci (wc := [(m0, .inr (10, [.int 0, .int 0, .int 0, .int (-1), .int 0, .int 0, .int 0, .int 0, .ref fd, .ref rfm, .ref rt_, .ref to_, .ref rw_, .ref wa, .int 0, .ref rk, .ref rb, .ref cn, .ref br, .ref sm, .ref as_, .ref go, .ref sh_, .int 0, .int 1, .int 1, .int 0, .int 0, .int 0, .ref ki, .ref tg, .ref of_, .ref kp, .int 0, .ref rs]))]) (wr := [(to_, .inl (g.2 1, 25, .inl tl))]) (va_runV (As := [.int (nI a), .int (nI d), .int 0]) (rest := []) ⟨hx, hb, hml, hown, hts⟩ (c_X11_sureBy0 l g m0 fd rfm rt_ to_ rw_ wa rk rb cn br sm as_ go sh_ ki tg of_ kp rs 0 0 (-1) 0 0 0 0 0 0 1 1 0 0 0 0 0 (nI a) (nI d) H.size) (cwV 3 hts gX11_earnest_X11_sureBy rfl rfl rfl (by decide +kernel) ⟨Nat.le_of_ble_eq_true rfl, Nat.le_of_ble_eq_true rfl⟩) (he_preV (wc := [(m0, .inr (10, [.int 0, .int 0, .int 0, .int (-1), .int 0, .int 0, .int 0, .int 0, .ref fd, .ref rfm, .ref rt_, .ref to_, .ref rw_, .ref wa, .int 0, .ref rk, .ref rb, .ref cn, .ref br, .ref sm, .ref as_, .ref go, .ref sh_, .int 0, .int 1, .int 1, .int 0, .int 0, .int 0, .ref ki, .ref tg, .ref of_, .ref kp, .int 0, .ref rs]))]) hK hP hD hS hA hE [0] rfl rfl 0 rfl rfl) rfl rfl hl.1 rfl (lv_room (Nat.le_of_ble_eq_true rfl)) dX11_earnest_62 ⟨(Nat.le_of_ble_eq_true rfl), (Nat.le_of_ble_eq_true rfl)⟩) hP hD hS hA [0] [1] rfl rfl rfl (by decide) (fun r_17 u_18 H locs h_19 hP hD hS => ?_)
          subst h_19
          have hP : va_P g.1 vwCl [(to_, .inl (g.2 1, 25, .inl tl)), (m0, .inr (10, [.int 0, .int 0, .int 0, .int (-1), .int 0, .int 0, .int 0, .int 0, .ref fd, .ref rfm, .ref rt_, .ref to_, .ref rw_, .ref wa, .int 0, .ref rk, .ref rb, .ref cn, .ref br, .ref sm, .ref as_, .ref go, .ref sh_, .int 0, .int 1, .int 1, .int 0, .int 0, .int 0, .ref ki, .ref tg, .ref of_, .ref kp, .int 0, .ref rs]))] H := hP
          have hD : va_D A [(to_, .inl (g.2 1, 25, .inl tl)), (m0, .inr (10, [.int 0, .int 0, .int 0, .int (-1), .int 0, .int 0, .int 0, .int 0, .ref fd, .ref rfm, .ref rt_, .ref to_, .ref rw_, .ref wa, .int 0, .ref rk, .ref rb, .ref cn, .ref br, .ref sm, .ref as_, .ref go, .ref sh_, .int 0, .int 1, .int 1, .int 0, .int 0, .int 0, .ref ki, .ref tg, .ref of_, .ref kp, .int 0, .ref rs]))] := hD
          have hP := hP.sub (ws' := [(m0, .inr (10, [.int 0, .int 0, .int 0, .int (-1), .int 0, .int 0, .int 0, .int 0, .ref fd, .ref rfm, .ref rt_, .ref to_, .ref rw_, .ref wa, .int 0, .ref rk, .ref rb, .ref cn, .ref br, .ref sm, .ref as_, .ref go, .ref sh_, .int 0, .int 1, .int 1, .int 0, .int 0, .int 0, .ref ki, .ref tg, .ref of_, .ref kp, .int 0, .ref rs]))]) [1] rfl
          have hD := hD.sub (ws' := [(m0, .inr (10, [.int 0, .int 0, .int 0, .int (-1), .int 0, .int 0, .int 0, .int 0, .ref fd, .ref rfm, .ref rt_, .ref to_, .ref rw_, .ref wa, .int 0, .ref rk, .ref rb, .ref cn, .ref br, .ref sm, .ref as_, .ref go, .ref sh_, .int 0, .int 1, .int 1, .int 0, .int 0, .int 0, .ref ki, .ref tg, .ref of_, .ref kp, .int 0, .ref rs]))]) [1] (by decide) rfl
          exact he_ri hQ hx hb hr hlk hP hD hS dX11_earnest_65 (Nat.le_of_ble_eq_true rfl) (Nat.le_of_ble_eq_true rfl) (()) (rfl) (rfl)
        · exact absurd c_13 (by decide)
      · exact absurd (by decide) c_12
    · exact absurd c_8 (by decide)
set_option maxHeartbeats 4000000 in
set_option maxRecDepth 100000 in
theorem c_X11_stands (l : Launch) (g : he_G) (m0 : Nat) (fd : Nat) (rfm : Nat) (rt_ : Nat) (to_ : Nat) (rw_ : Nat) (wa : Nat) (rk : Nat) (rb : Nat) (cn : Nat) (br : Nat) (sm : Nat) (as_ : Nat) (go : Nat) (sh_ : Nat) (ki : Nat) (tg : Nat) (of_ : Nat) (kp : Nat) (rs : Nat) (tl : Nat → Int32) (a : Nat) (d : Nat) (ha6 : a ≤ 6) (hd6 : d ≤ 6) (ht0 : tl 0 = 0) : he_I l yX11_stands wsX11_stands 3 72 0 0 g [.ref m0, .int (nI a), .int (nI d)] [(m0, .inr (10, [.int 0, .int 0, .int 0, .int (-1), .int 0, .int 0, .int 0, .int 0, .ref fd, .ref rfm, .ref rt_, .ref to_, .ref rw_, .ref wa, .int 0, .ref rk, .ref rb, .ref cn, .ref br, .ref sm, .ref as_, .ref go, .ref sh_, .int 0, .int 1, .int 1, .int 0, .int 0, .int 0, .ref ki, .ref tg, .ref of_, .ref kp, .int 0, .ref rs])), (to_, .inl (g.2 1, 25, .inl tl))] (fun (r : Int32) (u : Int32) => r = 0) (fun (u : Int32) => [(m0, .inr (10, [.int 0, .int 0, .int 0, .int (-1), .int 0, .int 0, .int 0, .int 0, .ref fd, .ref rfm, .ref rt_, .ref to_, .ref rw_, .ref wa, .int 0, .ref rk, .ref rb, .ref cn, .ref br, .ref sm, .ref as_, .ref go, .ref sh_, .int 0, .int 1, .int 1, .int 0, .int 0, .int 0, .ref ki, .ref tg, .ref of_, .ref kp, .int u, .ref rs]))]) := by
  refine he_begin (l := l) (g := g) (y := yX11_stands) (wl := wsX11_stands) (fr := 3) (lo := 72) (mc := 0) (ms := 0) (av := [.ref m0, .int (nI a), .int (nI d)]) (ws := [(m0, .inr (10, [.int 0, .int 0, .int 0, .int (-1), .int 0, .int 0, .int 0, .int 0, .ref fd, .ref rfm, .ref rt_, .ref to_, .ref rw_, .ref wa, .int 0, .ref rk, .ref rb, .ref cn, .ref br, .ref sm, .ref as_, .ref go, .ref sh_, .int 0, .int 1, .int 1, .int 0, .int 0, .int 0, .ref ki, .ref tg, .ref of_, .ref kp, .int 0, .ref rs])), (to_, .inl (g.2 1, 25, .inl tl))]) (cc := cX11_stands) (maxL := 5) (ret := (some .int)) (fun A => va_Qi (fun (r : Int32) (u : Int32) => r = 0) (fun u t => he_post g A ((fun (u : Int32) => [(m0, .inr (10, [.int 0, .int 0, .int 0, .int (-1), .int 0, .int 0, .int 0, .int 0, .ref fd, .ref rfm, .ref rt_, .ref to_, .ref rw_, .ref wa, .int 0, .ref rk, .ref rb, .ref cn, .ref br, .ref sm, .ref as_, .ref go, .ref sh_, .int 0, .int 1, .int 1, .int 0, .int 0, .int 0, .ref ki, .ref tg, .ref of_, .ref kp, .int u, .ref rs]))]) u) t) A) (by decide) rfl (Nat.le_of_ble_eq_true rfl) ?_
  intro p e s m args below meth c A ls H locs Q hQ hB
  obtain ⟨hx, hb, hr, hml, hown, hts, hlk, hin, hP, hK, hD, hS, hA, hE, hl⟩ := hB
  have hl : lv_has ls 5 [(0, .ref m0), (1, .int (nI a)), (2, .int (nI d))] := hl
  have f85 := hts (.fieldLink RX11 85 "HiredEnemyModel" "thrown" "I") (by decide +kernel)
  have inX11 : ∀ w ∈ wsX110, w ∈ wsX11_stands := by decide +kernel
  have f23 := hts (.fieldLink RX11 23 "HiredEnemyModel" "told" "[I") (by decide +kernel)
  refine lv_aload_n hx hb dX11_stands_0 rfl (lv_at hl 0 rfl) ?_
  refine lv_iconst (v := 0) hx hb dX11_stands_1 (by decide) ?_
  refine va_put (v := .int 0) (ty := .int) (T := TX11) (N := 35) hx hb hts inX11 tyX11 tyX11_ok nmX11 hown hK hP hD hS 0 rfl rfl 0 (by decide) f85 (fun _ h9 => h9) rfl (by decide +kernel) rfl rfl (Nat.le_of_ble_eq_true rfl) dX11_stands_2 (fun H locs hP hD hS => ?_)
  have hP : va_P g.1 vwCl [(m0, .inr (10, [.int 0, .int 0, .int 0, .int (-1), .int 0, .int 0, .int 0, .int 0, .ref fd, .ref rfm, .ref rt_, .ref to_, .ref rw_, .ref wa, .int 0, .ref rk, .ref rb, .ref cn, .ref br, .ref sm, .ref as_, .ref go, .ref sh_, .int 0, .int 1, .int 1, .int 0, .int 0, .int 0, .ref ki, .ref tg, .ref of_, .ref kp, .int 0, .ref rs])), (to_, .inl (g.2 1, 25, .inl tl))] H := hP
  have hD : va_D A [(m0, .inr (10, [.int 0, .int 0, .int 0, .int (-1), .int 0, .int 0, .int 0, .int 0, .ref fd, .ref rfm, .ref rt_, .ref to_, .ref rw_, .ref wa, .int 0, .ref rk, .ref rb, .ref cn, .ref br, .ref sm, .ref as_, .ref go, .ref sh_, .int 0, .int 1, .int 1, .int 0, .int 0, .int 0, .ref ki, .ref tg, .ref of_, .ref kp, .int 0, .ref rs])), (to_, .inl (g.2 1, 25, .inl tl))] := hD
  refine lv_aload_n hx hb dX11_stands_5 rfl (lv_at hl 0 rfl) ?_
  refine lv_iload_n hx hb dX11_stands_6 rfl (lv_at hl 1 rfl) ?_
  refine lv_iload_n hx hb dX11_stands_7 rfl (lv_at hl 2 rfl) ?_
  refine he_ci (wc := []) (wr := [(m0, .inr (10, [.int 0, .int 0, .int 0, .int (-1), .int 0, .int 0, .int 0, .int 0, .ref fd, .ref rfm, .ref rt_, .ref to_, .ref rw_, .ref wa, .int 0, .ref rk, .ref rb, .ref cn, .ref br, .ref sm, .ref as_, .ref go, .ref sh_, .int 0, .int 1, .int 1, .int 0, .int 0, .int 0, .ref ki, .ref tg, .ref of_, .ref kp, .int 0, .ref rs])), (to_, .inl (g.2 1, 25, .inl tl))]) (va_runS (As := [.int (nI a), .int (nI d)]) (rest := [.ref m0]) ⟨hx, hb, hml, hown, hts⟩ (c_X11_areTens1 l g (nI a) (nI d) (fun h9 => absurd (he_within_in (k := a) (a := 0) (b := 6) (a0 := 0) (B := 6) rfl rfl (by omega) (by omega) (by decide)) (by rw [h9]; decide)) (fun h9 => absurd (he_within_in (k := d) (a := 0) (b := 6) (a0 := 0) (B := 6) rfl rfl (by omega) (by omega) (by decide)) (by rw [h9]; decide)) H.size) (va_cwS 2 hts gX11_stands_X11_areTens rfl rfl rfl (by decide +kernel) ⟨Nat.le_of_ble_eq_true rfl, Nat.le_of_ble_eq_true rfl⟩) (he_preS (wc := []) hK hP hD hS hA hE [] rfl rfl) rfl rfl hl.1 rfl (lv_room (Nat.le_of_ble_eq_true rfl)) dX11_stands_8 ⟨(Nat.le_of_ble_eq_true rfl), (Nat.le_of_ble_eq_true rfl)⟩) hP hD hS hA [] [0, 1] rfl rfl rfl (by decide) (fun r_1 u_2 H locs h_3 hP hD hS => ?_)
  subst h_3
  have hP : va_P g.1 vwCl [(m0, .inr (10, [.int 0, .int 0, .int 0, .int (-1), .int 0, .int 0, .int 0, .int 0, .ref fd, .ref rfm, .ref rt_, .ref to_, .ref rw_, .ref wa, .int 0, .ref rk, .ref rb, .ref cn, .ref br, .ref sm, .ref as_, .ref go, .ref sh_, .int 0, .int 1, .int 1, .int 0, .int 0, .int 0, .ref ki, .ref tg, .ref of_, .ref kp, .int 0, .ref rs])), (to_, .inl (g.2 1, 25, .inl tl))] H := hP
  have hD : va_D A [(m0, .inr (10, [.int 0, .int 0, .int 0, .int (-1), .int 0, .int 0, .int 0, .int 0, .ref fd, .ref rfm, .ref rt_, .ref to_, .ref rw_, .ref wa, .int 0, .ref rk, .ref rb, .ref cn, .ref br, .ref sm, .ref as_, .ref go, .ref sh_, .int 0, .int 1, .int 1, .int 0, .int 0, .int 0, .ref ki, .ref tg, .ref of_, .ref kp, .int 0, .ref rs])), (to_, .inl (g.2 1, 25, .inl tl))] := hD
  refine lv_if_ne (tgt := 18) hx hb dX11_stands_11 (by decide) (fun c_4 => ?_) (fun c_4 => ?_)
  · refine lv_iconst (v := 0) hx hb dX11_stands_18 (by decide) ?_
    refine lv_iconst (v := 1) hx hb dX11_stands_19 (by decide) ?_
    refine lv_iconst (v := 2) hx hb dX11_stands_20 (by decide) ?_
    refine he_ci (wc := [(m0, .inr (10, [.int 0, .int 0, .int 0, .int (-1), .int 0, .int 0, .int 0, .int 0, .ref fd, .ref rfm, .ref rt_, .ref to_, .ref rw_, .ref wa, .int 0, .ref rk, .ref rb, .ref cn, .ref br, .ref sm, .ref as_, .ref go, .ref sh_, .int 0, .int 1, .int 1, .int 0, .int 0, .int 0, .ref ki, .ref tg, .ref of_, .ref kp, .int 0, .ref rs]))]) (wr := [(to_, .inl (g.2 1, 25, .inl tl))]) (va_runV (As := [.int 0, .int 1, .int 2]) (rest := []) ⟨hx, hb, hml, hown, hts⟩ (c_X11_bad0 l g m0 fd rfm rt_ to_ rw_ wa rk rb cn br sm as_ go sh_ ki tg of_ kp rs 0 0 (-1) 0 0 0 0 0 0 1 1 0 0 0 0 1 2 H.size) (cwV 3 hts gX11_stands_X11_bad rfl rfl rfl (by decide +kernel) ⟨Nat.le_of_ble_eq_true rfl, Nat.le_of_ble_eq_true rfl⟩) (he_preV (wc := [(m0, .inr (10, [.int 0, .int 0, .int 0, .int (-1), .int 0, .int 0, .int 0, .int 0, .ref fd, .ref rfm, .ref rt_, .ref to_, .ref rw_, .ref wa, .int 0, .ref rk, .ref rb, .ref cn, .ref br, .ref sm, .ref as_, .ref go, .ref sh_, .int 0, .int 1, .int 1, .int 0, .int 0, .int 0, .ref ki, .ref tg, .ref of_, .ref kp, .int 0, .ref rs]))]) hK hP hD hS hA hE [0] rfl rfl 0 rfl rfl) rfl rfl hl.1 rfl (lv_room (Nat.le_of_ble_eq_true rfl)) dX11_stands_21 ⟨(Nat.le_of_ble_eq_true rfl), (Nat.le_of_ble_eq_true rfl)⟩) hP hD hS hA [0] [1] rfl rfl rfl (by decide) (fun r_5 u_6 H locs h_7 hP hD hS => ?_)
    subst h_7
    have hP : va_P g.1 vwCl [(to_, .inl (g.2 1, 25, .inl tl)), (m0, .inr (10, [.int 0, .int 0, .int 0, .int (-1), .int 0, .int 0, .int 0, .int 0, .ref fd, .ref rfm, .ref rt_, .ref to_, .ref rw_, .ref wa, .int 0, .ref rk, .ref rb, .ref cn, .ref br, .ref sm, .ref as_, .ref go, .ref sh_, .int 0, .int 1, .int 1, .int 0, .int 0, .int 0, .ref ki, .ref tg, .ref of_, .ref kp, .int 0, .ref rs]))] H := hP
    have hD : va_D A [(to_, .inl (g.2 1, 25, .inl tl)), (m0, .inr (10, [.int 0, .int 0, .int 0, .int (-1), .int 0, .int 0, .int 0, .int 0, .ref fd, .ref rfm, .ref rt_, .ref to_, .ref rw_, .ref wa, .int 0, .ref rk, .ref rb, .ref cn, .ref br, .ref sm, .ref as_, .ref go, .ref sh_, .int 0, .int 1, .int 1, .int 0, .int 0, .int 0, .ref ki, .ref tg, .ref of_, .ref kp, .int 0, .ref rs]))] := hD
    refine lv_if_eq (tgt := 29) hx hb dX11_stands_24 (by decide) (fun c_8 => ?_) (fun c_8 => ?_)
    · refine lv_aload_n hx hb dX11_stands_29 rfl (lv_at hl 0 rfl) ?_
      refine lv_iload_n hx hb dX11_stands_30 rfl (lv_at hl 1 rfl) ?_
      refine lv_iload_n hx hb dX11_stands_31 rfl (lv_at hl 2 rfl) ?_
      refine lv_aload_n hx hb dX11_stands_32 rfl (lv_at hl 0 rfl) ?_
      refine he_ci (wc := [(m0, .inr (10, [.int 0, .int 0, .int 0, .int (-1), .int 0, .int 0, .int 0, .int 0, .ref fd, .ref rfm, .ref rt_, .ref to_, .ref rw_, .ref wa, .int 0, .ref rk, .ref rb, .ref cn, .ref br, .ref sm, .ref as_, .ref go, .ref sh_, .int 0, .int 1, .int 1, .int 0, .int 0, .int 0, .ref ki, .ref tg, .ref of_, .ref kp, .int 0, .ref rs])), (to_, .inl (g.2 1, 25, .inl tl))]) (wr := []) (va_runV (As := []) (rest := [.int (nI d), .int (nI a), .ref m0]) ⟨hx, hb, hml, hown, hts⟩ (c_X11_firstWalls0 l g m0 fd rfm rt_ to_ rw_ wa rk rb cn br sm as_ go sh_ ki tg of_ kp rs 0 0 (-1) 0 0 0 0 0 0 1 1 0 0 0 0 0 tl (by first | assumption | decide | omega) H.size) (cwV 0 hts gX11_stands_X11_firstWalls rfl rfl rfl (by decide +kernel) ⟨Nat.le_of_ble_eq_true rfl, Nat.le_of_ble_eq_true rfl⟩) (he_preV (wc := [(m0, .inr (10, [.int 0, .int 0, .int 0, .int (-1), .int 0, .int 0, .int 0, .int 0, .ref fd, .ref rfm, .ref rt_, .ref to_, .ref rw_, .ref wa, .int 0, .ref rk, .ref rb, .ref cn, .ref br, .ref sm, .ref as_, .ref go, .ref sh_, .int 0, .int 1, .int 1, .int 0, .int 0, .int 0, .ref ki, .ref tg, .ref of_, .ref kp, .int 0, .ref rs])), (to_, .inl (g.2 1, 25, .inl tl))]) hK hP hD hS hA hE [1, 0] rfl rfl 1 rfl rfl) rfl rfl hl.1 rfl (lv_room (Nat.le_of_ble_eq_true rfl)) dX11_stands_33 ⟨(Nat.le_of_ble_eq_true rfl), (Nat.le_of_ble_eq_true rfl)⟩) hP hD hS hA [1, 0] [] rfl rfl rfl (by decide) (fun r_9 u_10 H locs h_11 hP hD hS => ?_)
      subst h_11
      have hP : va_P g.1 vwCl [(m0, .inr (10, [.int 0, .int 0, .int 0, .int (-1), .int 0, .int 0, .int 0, .int 0, .ref fd, .ref rfm, .ref rt_, .ref to_, .ref rw_, .ref wa, .int 0, .ref rk, .ref rb, .ref cn, .ref br, .ref sm, .ref as_, .ref go, .ref sh_, .int 0, .int 1, .int 1, .int 0, .int 0, .int 0, .ref ki, .ref tg, .ref of_, .ref kp, .int 0, .ref rs])), (to_, .inl (g.2 1, 25, .inl tl))] H := hP
      have hD : va_D A [(m0, .inr (10, [.int 0, .int 0, .int 0, .int (-1), .int 0, .int 0, .int 0, .int 0, .ref fd, .ref rfm, .ref rt_, .ref to_, .ref rw_, .ref wa, .int 0, .ref rk, .ref rb, .ref cn, .ref br, .ref sm, .ref as_, .ref go, .ref sh_, .int 0, .int 1, .int 1, .int 0, .int 0, .int 0, .ref ki, .ref tg, .ref of_, .ref kp, .int 0, .ref rs])), (to_, .inl (g.2 1, 25, .inl tl))] := hD
      refine he_ci (wc := [(m0, .inr (10, [.int 0, .int 0, .int 0, .int (-1), .int 0, .int 0, .int 0, .int 0, .ref fd, .ref rfm, .ref rt_, .ref to_, .ref rw_, .ref wa, .int 0, .ref rk, .ref rb, .ref cn, .ref br, .ref sm, .ref as_, .ref go, .ref sh_, .int 0, .int 1, .int 1, .int 0, .int 0, .int 0, .ref ki, .ref tg, .ref of_, .ref kp, .int 0, .ref rs]))]) (wr := [(to_, .inl (g.2 1, 25, .inl tl))]) (va_runV (As := [.int (nI a), .int (nI d), .int 0]) (rest := []) ⟨hx, hb, hml, hown, hts⟩ (c_X11_safeBy0 l g m0 fd rfm rt_ to_ rw_ wa rk rb cn br sm as_ go sh_ ki tg of_ kp rs 0 0 (-1) 0 0 0 0 0 0 1 1 0 0 0 0 0 (nI a) (nI d) H.size) (cwV 3 hts gX11_stands_X11_safeBy rfl rfl rfl (by decide +kernel) ⟨Nat.le_of_ble_eq_true rfl, Nat.le_of_ble_eq_true rfl⟩) (he_preV (wc := [(m0, .inr (10, [.int 0, .int 0, .int 0, .int (-1), .int 0, .int 0, .int 0, .int 0, .ref fd, .ref rfm, .ref rt_, .ref to_, .ref rw_, .ref wa, .int 0, .ref rk, .ref rb, .ref cn, .ref br, .ref sm, .ref as_, .ref go, .ref sh_, .int 0, .int 1, .int 1, .int 0, .int 0, .int 0, .ref ki, .ref tg, .ref of_, .ref kp, .int 0, .ref rs]))]) hK hP hD hS hA hE [0] rfl rfl 0 rfl rfl) rfl rfl hl.1 rfl (lv_room (Nat.le_of_ble_eq_true rfl)) dX11_stands_36 ⟨(Nat.le_of_ble_eq_true rfl), (Nat.le_of_ble_eq_true rfl)⟩) hP hD hS hA [0] [1] rfl rfl rfl (by decide) (fun r_12 u_13 H locs h_14 hP hD hS => ?_)
      obtain ⟨sr_15, rfl⟩ : ∃ z, z = u_13 := ⟨_, rfl⟩
      subst h_14
      have hP : va_P g.1 vwCl [(to_, .inl (g.2 1, 25, .inl tl)), (m0, .inr (10, [.int 0, .int 0, .int 0, .int (-1), .int 0, .int 0, .int 0, .int 0, .ref fd, .ref rfm, .ref rt_, .ref to_, .ref rw_, .ref wa, .int 0, .ref rk, .ref rb, .ref cn, .ref br, .ref sm, .ref as_, .ref go, .ref sh_, .int 0, .int 1, .int 1, .int 0, .int 0, .int 0, .ref ki, .ref tg, .ref of_, .ref kp, .int sr_15, .ref rs]))] H := hP
      have hD : va_D A [(to_, .inl (g.2 1, 25, .inl tl)), (m0, .inr (10, [.int 0, .int 0, .int 0, .int (-1), .int 0, .int 0, .int 0, .int 0, .ref fd, .ref rfm, .ref rt_, .ref to_, .ref rw_, .ref wa, .int 0, .ref rk, .ref rb, .ref cn, .ref br, .ref sm, .ref as_, .ref go, .ref sh_, .int 0, .int 1, .int 1, .int 0, .int 0, .int 0, .ref ki, .ref tg, .ref of_, .ref kp, .int sr_15, .ref rs]))] := hD
      refine lv_pop hx hb dX11_stands_39 rfl ?_
      refine lv_iconst (v := 0) hx hb dX11_stands_40 (by decide) ?_
      refine lv_istore_n (lv' := [(3, .int 0), (0, .ref m0), (1, .int (nI a)), (2, .int (nI d))]) hx hb dX11_stands_41 rfl hl (by decide) rfl (fun ls hl => ?_)
      refine lv_iconst (v := 0) hx hb dX11_stands_42 (by decide) ?_
      refine lv_istore (lv' := [(4, .int 0), (3, .int 0), (0, .ref m0), (1, .int (nI a)), (2, .int (nI d))]) hx hb dX11_stands_43 hl (by decide) rfl (fun ls hl => ?_)
      refine lv_iload hx hb dX11_stands_45 (lv_at hl 0 rfl) ?_
      refine lv_iconst (v := 3) hx hb dX11_stands_47 (by decide) ?_
      refine lv_aload_n hx hb dX11_stands_48 rfl (lv_at hl 2 rfl) ?_
      refine va_get (v := .ref to_) (T := TX11) (N := 35) hx hb hts inX11 hown hK hP 1 rfl rfl 11 (by decide) f23 (fun _ h9 => h9) rfl dX11_stands_49 ?_
      refine lv_iconst (v := 0) hx hb dX11_stands_52 (by decide) ?_
      refine he_iald hx hb hK hP 0 rfl (0) (by decide) (by decide) (by first | decide | assumption) (0) ht0 dX11_stands_53 ?_
      refine he_ci (wc := []) (wr := [(to_, .inl (g.2 1, 25, .inl tl)), (m0, .inr (10, [.int 0, .int 0, .int 0, .int (-1), .int 0, .int 0, .int 0, .int 0, .ref fd, .ref rfm, .ref rt_, .ref to_, .ref rw_, .ref wa, .int 0, .ref rk, .ref rb, .ref cn, .ref br, .ref sm, .ref as_, .ref go, .ref sh_, .int 0, .int 1, .int 1, .int 0, .int 0, .int 0, .ref ki, .ref tg, .ref of_, .ref kp, .int sr_15, .ref rs]))]) (va_runS (As := [.int 3, .int 0]) (rest := [.int 0]) ⟨hx, hb, hml, hown, hts⟩ (c_X11_less l g 3 0 H.size) (va_cwS 2 hts gX11_stands_X11_less rfl rfl rfl (by decide +kernel) ⟨Nat.le_of_ble_eq_true rfl, Nat.le_of_ble_eq_true rfl⟩) (he_preS (wc := []) hK hP hD hS hA hE [] rfl rfl) rfl rfl hl.1 rfl (lv_room (Nat.le_of_ble_eq_true rfl)) dX11_stands_54 ⟨(Nat.le_of_ble_eq_true rfl), (Nat.le_of_ble_eq_true rfl)⟩) hP hD hS hA [] [0, 1] rfl rfl rfl (by decide) (fun r_16 u_17 H locs h_18 hP hD hS => ?_)
      subst h_18
      have hP : va_P g.1 vwCl [(to_, .inl (g.2 1, 25, .inl tl)), (m0, .inr (10, [.int 0, .int 0, .int 0, .int (-1), .int 0, .int 0, .int 0, .int 0, .ref fd, .ref rfm, .ref rt_, .ref to_, .ref rw_, .ref wa, .int 0, .ref rk, .ref rb, .ref cn, .ref br, .ref sm, .ref as_, .ref go, .ref sh_, .int 0, .int 1, .int 1, .int 0, .int 0, .int 0, .ref ki, .ref tg, .ref of_, .ref kp, .int sr_15, .ref rs]))] H := hP
      have hD : va_D A [(to_, .inl (g.2 1, 25, .inl tl)), (m0, .inr (10, [.int 0, .int 0, .int 0, .int (-1), .int 0, .int 0, .int 0, .int 0, .ref fd, .ref rfm, .ref rt_, .ref to_, .ref rw_, .ref wa, .int 0, .ref rk, .ref rb, .ref cn, .ref br, .ref sm, .ref as_, .ref go, .ref sh_, .int 0, .int 1, .int 1, .int 0, .int 0, .int 0, .ref ki, .ref tg, .ref of_, .ref kp, .int sr_15, .ref rs]))] := hD
      refine he_top (0) (by decide) ?_
      refine lv_icmp_ge (tgt := 81) hx hb dX11_stands_57 (by decide) (fun c_19 => ?_) (fun c_19 => ?_)
      · refine lv_iload_n hx hb dX11_stands_81 rfl (lv_at hl 1 rfl) ?_
        have hP := hP.sub (ws' := [(m0, .inr (10, [.int 0, .int 0, .int 0, .int (-1), .int 0, .int 0, .int 0, .int 0, .ref fd, .ref rfm, .ref rt_, .ref to_, .ref rw_, .ref wa, .int 0, .ref rk, .ref rb, .ref cn, .ref br, .ref sm, .ref as_, .ref go, .ref sh_, .int 0, .int 1, .int 1, .int 0, .int 0, .int 0, .ref ki, .ref tg, .ref of_, .ref kp, .int sr_15, .ref rs]))]) [1] rfl
        have hD := hD.sub (ws' := [(m0, .inr (10, [.int 0, .int 0, .int 0, .int (-1), .int 0, .int 0, .int 0, .int 0, .ref fd, .ref rfm, .ref rt_, .ref to_, .ref rw_, .ref wa, .int 0, .ref rk, .ref rb, .ref cn, .ref br, .ref sm, .ref as_, .ref go, .ref sh_, .int 0, .int 1, .int 1, .int 0, .int 0, .int 0, .ref ki, .ref tg, .ref of_, .ref kp, .int sr_15, .ref rs]))]) [1] (by decide) rfl
        exact he_ri hQ hx hb hr hlk hP hD hS dX11_stands_82 (Nat.le_of_ble_eq_true rfl) (Nat.le_of_ble_eq_true rfl) (sr_15) (rfl) (rfl)
      · exact absurd (by decide) c_19
    · exact absurd (by decide) c_8
  · exact absurd c_4 (by decide)
set_option maxHeartbeats 4000000 in
set_option maxRecDepth 100000 in
theorem c_X11_show (l : Launch) (g : he_G) (m0 : Nat) (fd : Nat) (rfm : Nat) (rt_ : Nat) (to_ : Nat) (rw_ : Nat) (wa : Nat) (rk : Nat) (rb : Nat) (cn : Nat) (br : Nat) (sm : Nat) (as_ : Nat) (go : Nat) (sh_ : Nat) (ki : Nat) (tg : Nat) (of_ : Nat) (kp : Nat) (rs : Nat) (tl : Nat → Int32) (a : Nat) (d : Nat) (ha6 : a ≤ 6) (hd6 : d ≤ 6) (ht0 : tl 0 = 0) : he_I l yX11_show wsX11_show 3 72 0 0 g [.ref m0, .int (nI a), .int (nI d)] [(m0, .inr (10, [.int 0, .int 0, .int 0, .int (-1), .int 0, .int 0, .int 0, .int 0, .ref fd, .ref rfm, .ref rt_, .ref to_, .ref rw_, .ref wa, .int 0, .ref rk, .ref rb, .ref cn, .ref br, .ref sm, .ref as_, .ref go, .ref sh_, .int 0, .int 1, .int 1, .int 0, .int 0, .int 0, .ref ki, .ref tg, .ref of_, .ref kp, .int 0, .ref rs])), (to_, .inl (g.2 1, 25, .inl tl))] (fun (r : Int32) (u : Int32) => r = 0) (fun (u : Int32) => [(m0, .inr (10, [.int 0, .int 0, .int 0, .int (-1), .int 0, .int 0, .int 0, .int 0, .ref fd, .ref rfm, .ref rt_, .ref to_, .ref rw_, .ref wa, .int 0, .ref rk, .ref rb, .ref cn, .ref br, .ref sm, .ref as_, .ref go, .ref sh_, .int 0, .int 1, .int 1, .int 0, .int 0, .int 0, .ref ki, .ref tg, .ref of_, .ref kp, .int u, .ref rs]))]) := by
  refine he_begin (l := l) (g := g) (y := yX11_show) (wl := wsX11_show) (fr := 3) (lo := 72) (mc := 0) (ms := 0) (av := [.ref m0, .int (nI a), .int (nI d)]) (ws := [(m0, .inr (10, [.int 0, .int 0, .int 0, .int (-1), .int 0, .int 0, .int 0, .int 0, .ref fd, .ref rfm, .ref rt_, .ref to_, .ref rw_, .ref wa, .int 0, .ref rk, .ref rb, .ref cn, .ref br, .ref sm, .ref as_, .ref go, .ref sh_, .int 0, .int 1, .int 1, .int 0, .int 0, .int 0, .ref ki, .ref tg, .ref of_, .ref kp, .int 0, .ref rs])), (to_, .inl (g.2 1, 25, .inl tl))]) (cc := cX11_show) (maxL := 7) (ret := (some .int)) (fun A => va_Qi (fun (r : Int32) (u : Int32) => r = 0) (fun u t => he_post g A ((fun (u : Int32) => [(m0, .inr (10, [.int 0, .int 0, .int 0, .int (-1), .int 0, .int 0, .int 0, .int 0, .ref fd, .ref rfm, .ref rt_, .ref to_, .ref rw_, .ref wa, .int 0, .ref rk, .ref rb, .ref cn, .ref br, .ref sm, .ref as_, .ref go, .ref sh_, .int 0, .int 1, .int 1, .int 0, .int 0, .int 0, .ref ki, .ref tg, .ref of_, .ref kp, .int u, .ref rs]))]) u) t) A) (by decide) rfl (Nat.le_of_ble_eq_true rfl) ?_
  intro p e s m args below meth c A ls H locs Q hQ hB
  obtain ⟨hx, hb, hr, hml, hown, hts, hlk, hin, hP, hK, hD, hS, hA, hE, hl⟩ := hB
  have hl : lv_has ls 7 [(0, .ref m0), (1, .int (nI a)), (2, .int (nI d))] := hl
  have f85 := hts (.fieldLink RX11 85 "HiredEnemyModel" "thrown" "I") (by decide +kernel)
  have inX11 : ∀ w ∈ wsX110, w ∈ wsX11_show := by decide +kernel
  refine lv_aload_n hx hb dX11_show_0 rfl (lv_at hl 0 rfl) ?_
  refine lv_iconst (v := 0) hx hb dX11_show_1 (by decide) ?_
  refine va_put (v := .int 0) (ty := .int) (T := TX11) (N := 35) hx hb hts inX11 tyX11 tyX11_ok nmX11 hown hK hP hD hS 0 rfl rfl 0 (by decide) f85 (fun _ h9 => h9) rfl (by decide +kernel) rfl rfl (Nat.le_of_ble_eq_true rfl) dX11_show_2 (fun H locs hP hD hS => ?_)
  have hP : va_P g.1 vwCl [(m0, .inr (10, [.int 0, .int 0, .int 0, .int (-1), .int 0, .int 0, .int 0, .int 0, .ref fd, .ref rfm, .ref rt_, .ref to_, .ref rw_, .ref wa, .int 0, .ref rk, .ref rb, .ref cn, .ref br, .ref sm, .ref as_, .ref go, .ref sh_, .int 0, .int 1, .int 1, .int 0, .int 0, .int 0, .ref ki, .ref tg, .ref of_, .ref kp, .int 0, .ref rs])), (to_, .inl (g.2 1, 25, .inl tl))] H := hP
  have hD : va_D A [(m0, .inr (10, [.int 0, .int 0, .int 0, .int (-1), .int 0, .int 0, .int 0, .int 0, .ref fd, .ref rfm, .ref rt_, .ref to_, .ref rw_, .ref wa, .int 0, .ref rk, .ref rb, .ref cn, .ref br, .ref sm, .ref as_, .ref go, .ref sh_, .int 0, .int 1, .int 1, .int 0, .int 0, .int 0, .ref ki, .ref tg, .ref of_, .ref kp, .int 0, .ref rs])), (to_, .inl (g.2 1, 25, .inl tl))] := hD
  refine lv_aload_n hx hb dX11_show_5 rfl (lv_at hl 0 rfl) ?_
  refine lv_iload_n hx hb dX11_show_6 rfl (lv_at hl 1 rfl) ?_
  refine lv_iload_n hx hb dX11_show_7 rfl (lv_at hl 2 rfl) ?_
  refine he_ci (wc := []) (wr := [(m0, .inr (10, [.int 0, .int 0, .int 0, .int (-1), .int 0, .int 0, .int 0, .int 0, .ref fd, .ref rfm, .ref rt_, .ref to_, .ref rw_, .ref wa, .int 0, .ref rk, .ref rb, .ref cn, .ref br, .ref sm, .ref as_, .ref go, .ref sh_, .int 0, .int 1, .int 1, .int 0, .int 0, .int 0, .ref ki, .ref tg, .ref of_, .ref kp, .int 0, .ref rs])), (to_, .inl (g.2 1, 25, .inl tl))]) (va_runS (As := [.int (nI a), .int (nI d)]) (rest := [.ref m0]) ⟨hx, hb, hml, hown, hts⟩ (c_X11_areTens1 l g (nI a) (nI d) (fun h9 => absurd (he_within_in (k := a) (a := 0) (b := 6) (a0 := 0) (B := 6) rfl rfl (by omega) (by omega) (by decide)) (by rw [h9]; decide)) (fun h9 => absurd (he_within_in (k := d) (a := 0) (b := 6) (a0 := 0) (B := 6) rfl rfl (by omega) (by omega) (by decide)) (by rw [h9]; decide)) H.size) (va_cwS 2 hts gX11_show_X11_areTens rfl rfl rfl (by decide +kernel) ⟨Nat.le_of_ble_eq_true rfl, Nat.le_of_ble_eq_true rfl⟩) (he_preS (wc := []) hK hP hD hS hA hE [] rfl rfl) rfl rfl hl.1 rfl (lv_room (Nat.le_of_ble_eq_true rfl)) dX11_show_8 ⟨(Nat.le_of_ble_eq_true rfl), (Nat.le_of_ble_eq_true rfl)⟩) hP hD hS hA [] [0, 1] rfl rfl rfl (by decide) (fun r_1 u_2 H locs h_3 hP hD hS => ?_)
  subst h_3
  have hP : va_P g.1 vwCl [(m0, .inr (10, [.int 0, .int 0, .int 0, .int (-1), .int 0, .int 0, .int 0, .int 0, .ref fd, .ref rfm, .ref rt_, .ref to_, .ref rw_, .ref wa, .int 0, .ref rk, .ref rb, .ref cn, .ref br, .ref sm, .ref as_, .ref go, .ref sh_, .int 0, .int 1, .int 1, .int 0, .int 0, .int 0, .ref ki, .ref tg, .ref of_, .ref kp, .int 0, .ref rs])), (to_, .inl (g.2 1, 25, .inl tl))] H := hP
  have hD : va_D A [(m0, .inr (10, [.int 0, .int 0, .int 0, .int (-1), .int 0, .int 0, .int 0, .int 0, .ref fd, .ref rfm, .ref rt_, .ref to_, .ref rw_, .ref wa, .int 0, .ref rk, .ref rb, .ref cn, .ref br, .ref sm, .ref as_, .ref go, .ref sh_, .int 0, .int 1, .int 1, .int 0, .int 0, .int 0, .ref ki, .ref tg, .ref of_, .ref kp, .int 0, .ref rs])), (to_, .inl (g.2 1, 25, .inl tl))] := hD
  refine lv_if_ne (tgt := 18) hx hb dX11_show_11 (by decide) (fun c_4 => ?_) (fun c_4 => ?_)
  · refine lv_iconst (v := 0) hx hb dX11_show_18 (by decide) ?_
    refine lv_iconst (v := 1) hx hb dX11_show_19 (by decide) ?_
    refine lv_iconst (v := 2) hx hb dX11_show_20 (by decide) ?_
    refine he_ci (wc := [(m0, .inr (10, [.int 0, .int 0, .int 0, .int (-1), .int 0, .int 0, .int 0, .int 0, .ref fd, .ref rfm, .ref rt_, .ref to_, .ref rw_, .ref wa, .int 0, .ref rk, .ref rb, .ref cn, .ref br, .ref sm, .ref as_, .ref go, .ref sh_, .int 0, .int 1, .int 1, .int 0, .int 0, .int 0, .ref ki, .ref tg, .ref of_, .ref kp, .int 0, .ref rs]))]) (wr := [(to_, .inl (g.2 1, 25, .inl tl))]) (va_runV (As := [.int 0, .int 1, .int 2]) (rest := []) ⟨hx, hb, hml, hown, hts⟩ (c_X11_bad0 l g m0 fd rfm rt_ to_ rw_ wa rk rb cn br sm as_ go sh_ ki tg of_ kp rs 0 0 (-1) 0 0 0 0 0 0 1 1 0 0 0 0 1 2 H.size) (cwV 3 hts gX11_show_X11_bad rfl rfl rfl (by decide +kernel) ⟨Nat.le_of_ble_eq_true rfl, Nat.le_of_ble_eq_true rfl⟩) (he_preV (wc := [(m0, .inr (10, [.int 0, .int 0, .int 0, .int (-1), .int 0, .int 0, .int 0, .int 0, .ref fd, .ref rfm, .ref rt_, .ref to_, .ref rw_, .ref wa, .int 0, .ref rk, .ref rb, .ref cn, .ref br, .ref sm, .ref as_, .ref go, .ref sh_, .int 0, .int 1, .int 1, .int 0, .int 0, .int 0, .ref ki, .ref tg, .ref of_, .ref kp, .int 0, .ref rs]))]) hK hP hD hS hA hE [0] rfl rfl 0 rfl rfl) rfl rfl hl.1 rfl (lv_room (Nat.le_of_ble_eq_true rfl)) dX11_show_21 ⟨(Nat.le_of_ble_eq_true rfl), (Nat.le_of_ble_eq_true rfl)⟩) hP hD hS hA [0] [1] rfl rfl rfl (by decide) (fun r_5 u_6 H locs h_7 hP hD hS => ?_)
    subst h_7
    have hP : va_P g.1 vwCl [(to_, .inl (g.2 1, 25, .inl tl)), (m0, .inr (10, [.int 0, .int 0, .int 0, .int (-1), .int 0, .int 0, .int 0, .int 0, .ref fd, .ref rfm, .ref rt_, .ref to_, .ref rw_, .ref wa, .int 0, .ref rk, .ref rb, .ref cn, .ref br, .ref sm, .ref as_, .ref go, .ref sh_, .int 0, .int 1, .int 1, .int 0, .int 0, .int 0, .ref ki, .ref tg, .ref of_, .ref kp, .int 0, .ref rs]))] H := hP
    have hD : va_D A [(to_, .inl (g.2 1, 25, .inl tl)), (m0, .inr (10, [.int 0, .int 0, .int 0, .int (-1), .int 0, .int 0, .int 0, .int 0, .ref fd, .ref rfm, .ref rt_, .ref to_, .ref rw_, .ref wa, .int 0, .ref rk, .ref rb, .ref cn, .ref br, .ref sm, .ref as_, .ref go, .ref sh_, .int 0, .int 1, .int 1, .int 0, .int 0, .int 0, .ref ki, .ref tg, .ref of_, .ref kp, .int 0, .ref rs]))] := hD
    refine lv_if_eq (tgt := 29) hx hb dX11_show_24 (by decide) (fun c_8 => ?_) (fun c_8 => ?_)
    · refine lv_aload_n hx hb dX11_show_29 rfl (lv_at hl 0 rfl) ?_
      refine he_ci (wc := [(m0, .inr (10, [.int 0, .int 0, .int 0, .int (-1), .int 0, .int 0, .int 0, .int 0, .ref fd, .ref rfm, .ref rt_, .ref to_, .ref rw_, .ref wa, .int 0, .ref rk, .ref rb, .ref cn, .ref br, .ref sm, .ref as_, .ref go, .ref sh_, .int 0, .int 1, .int 1, .int 0, .int 0, .int 0, .ref ki, .ref tg, .ref of_, .ref kp, .int 0, .ref rs])), (to_, .inl (g.2 1, 25, .inl tl))]) (wr := []) (va_runV (As := []) (rest := []) ⟨hx, hb, hml, hown, hts⟩ (c_X11_firstWalls0 l g m0 fd rfm rt_ to_ rw_ wa rk rb cn br sm as_ go sh_ ki tg of_ kp rs 0 0 (-1) 0 0 0 0 0 0 1 1 0 0 0 0 0 tl (by first | assumption | decide | omega) H.size) (cwV 0 hts gX11_show_X11_firstWalls rfl rfl rfl (by decide +kernel) ⟨Nat.le_of_ble_eq_true rfl, Nat.le_of_ble_eq_true rfl⟩) (he_preV (wc := [(m0, .inr (10, [.int 0, .int 0, .int 0, .int (-1), .int 0, .int 0, .int 0, .int 0, .ref fd, .ref rfm, .ref rt_, .ref to_, .ref rw_, .ref wa, .int 0, .ref rk, .ref rb, .ref cn, .ref br, .ref sm, .ref as_, .ref go, .ref sh_, .int 0, .int 1, .int 1, .int 0, .int 0, .int 0, .ref ki, .ref tg, .ref of_, .ref kp, .int 0, .ref rs])), (to_, .inl (g.2 1, 25, .inl tl))]) hK hP hD hS hA hE [1, 0] rfl rfl 1 rfl rfl) rfl rfl hl.1 rfl (lv_room (Nat.le_of_ble_eq_true rfl)) dX11_show_30 ⟨(Nat.le_of_ble_eq_true rfl), (Nat.le_of_ble_eq_true rfl)⟩) hP hD hS hA [1, 0] [] rfl rfl rfl (by decide) (fun r_9 u_10 H locs h_11 hP hD hS => ?_)
      subst h_11
      have hP : va_P g.1 vwCl [(m0, .inr (10, [.int 0, .int 0, .int 0, .int (-1), .int 0, .int 0, .int 0, .int 0, .ref fd, .ref rfm, .ref rt_, .ref to_, .ref rw_, .ref wa, .int 0, .ref rk, .ref rb, .ref cn, .ref br, .ref sm, .ref as_, .ref go, .ref sh_, .int 0, .int 1, .int 1, .int 0, .int 0, .int 0, .ref ki, .ref tg, .ref of_, .ref kp, .int 0, .ref rs])), (to_, .inl (g.2 1, 25, .inl tl))] H := hP
      have hD : va_D A [(m0, .inr (10, [.int 0, .int 0, .int 0, .int (-1), .int 0, .int 0, .int 0, .int 0, .ref fd, .ref rfm, .ref rt_, .ref to_, .ref rw_, .ref wa, .int 0, .ref rk, .ref rb, .ref cn, .ref br, .ref sm, .ref as_, .ref go, .ref sh_, .int 0, .int 1, .int 1, .int 0, .int 0, .int 0, .ref ki, .ref tg, .ref of_, .ref kp, .int 0, .ref rs])), (to_, .inl (g.2 1, 25, .inl tl))] := hD
      refine lv_istore_n (lv' := [(3, .int 0), (0, .ref m0), (1, .int (nI a)), (2, .int (nI d))]) hx hb dX11_show_33 rfl hl (by decide) rfl (fun ls hl => ?_)
      refine lv_aload_n hx hb dX11_show_34 rfl (lv_at hl 1 rfl) ?_
      refine lv_iload_n hx hb dX11_show_35 rfl (lv_at hl 2 rfl) ?_
      refine lv_iload_n hx hb dX11_show_36 rfl (lv_at hl 3 rfl) ?_
      refine lv_iload_n hx hb dX11_show_37 rfl (lv_at hl 0 rfl) ?_
      refine he_ci (wc := [(m0, .inr (10, [.int 0, .int 0, .int 0, .int (-1), .int 0, .int 0, .int 0, .int 0, .ref fd, .ref rfm, .ref rt_, .ref to_, .ref rw_, .ref wa, .int 0, .ref rk, .ref rb, .ref cn, .ref br, .ref sm, .ref as_, .ref go, .ref sh_, .int 0, .int 1, .int 1, .int 0, .int 0, .int 0, .ref ki, .ref tg, .ref of_, .ref kp, .int 0, .ref rs]))]) (wr := [(to_, .inl (g.2 1, 25, .inl tl))]) (va_runV (As := [.int (nI a), .int (nI d), .int 0]) (rest := []) ⟨hx, hb, hml, hown, hts⟩ (c_X11_safeBy0 l g m0 fd rfm rt_ to_ rw_ wa rk rb cn br sm as_ go sh_ ki tg of_ kp rs 0 0 (-1) 0 0 0 0 0 0 1 1 0 0 0 0 0 (nI a) (nI d) H.size) (cwV 3 hts gX11_show_X11_safeBy rfl rfl rfl (by decide +kernel) ⟨Nat.le_of_ble_eq_true rfl, Nat.le_of_ble_eq_true rfl⟩) (he_preV (wc := [(m0, .inr (10, [.int 0, .int 0, .int 0, .int (-1), .int 0, .int 0, .int 0, .int 0, .ref fd, .ref rfm, .ref rt_, .ref to_, .ref rw_, .ref wa, .int 0, .ref rk, .ref rb, .ref cn, .ref br, .ref sm, .ref as_, .ref go, .ref sh_, .int 0, .int 1, .int 1, .int 0, .int 0, .int 0, .ref ki, .ref tg, .ref of_, .ref kp, .int 0, .ref rs]))]) hK hP hD hS hA hE [0] rfl rfl 0 rfl rfl) rfl rfl hl.1 rfl (lv_room (Nat.le_of_ble_eq_true rfl)) dX11_show_38 ⟨(Nat.le_of_ble_eq_true rfl), (Nat.le_of_ble_eq_true rfl)⟩) hP hD hS hA [0] [1] rfl rfl rfl (by decide) (fun r_12 u_13 H locs h_14 hP hD hS => ?_)
      obtain ⟨sr_15, rfl⟩ : ∃ z, z = u_13 := ⟨_, rfl⟩
      subst h_14
      have hP : va_P g.1 vwCl [(to_, .inl (g.2 1, 25, .inl tl)), (m0, .inr (10, [.int 0, .int 0, .int 0, .int (-1), .int 0, .int 0, .int 0, .int 0, .ref fd, .ref rfm, .ref rt_, .ref to_, .ref rw_, .ref wa, .int 0, .ref rk, .ref rb, .ref cn, .ref br, .ref sm, .ref as_, .ref go, .ref sh_, .int 0, .int 1, .int 1, .int 0, .int 0, .int 0, .ref ki, .ref tg, .ref of_, .ref kp, .int sr_15, .ref rs]))] H := hP
      have hD : va_D A [(to_, .inl (g.2 1, 25, .inl tl)), (m0, .inr (10, [.int 0, .int 0, .int 0, .int (-1), .int 0, .int 0, .int 0, .int 0, .ref fd, .ref rfm, .ref rt_, .ref to_, .ref rw_, .ref wa, .int 0, .ref rk, .ref rb, .ref cn, .ref br, .ref sm, .ref as_, .ref go, .ref sh_, .int 0, .int 1, .int 1, .int 0, .int 0, .int 0, .ref ki, .ref tg, .ref of_, .ref kp, .int sr_15, .ref rs]))] := hD
      refine lv_istore (lv' := [(4, .int 0), (3, .int 0), (0, .ref m0), (1, .int (nI a)), (2, .int (nI d))]) hx hb dX11_show_41 hl (by decide) rfl (fun ls hl => ?_)
      refine lv_iconst (v := 0) hx hb dX11_show_43 (by decide) ?_
      refine lv_istore (lv' := [(5, .int 0), (4, .int 0), (3, .int 0), (0, .ref m0), (1, .int (nI a)), (2, .int (nI d))]) hx hb dX11_show_44 hl (by decide) rfl (fun ls hl => ?_)
      refine lv_iconst (v := 0) hx hb dX11_show_46 (by decide) ?_
      refine lv_istore (lv' := [(6, .int 0), (5, .int 0), (4, .int 0), (3, .int 0), (0, .ref m0), (1, .int (nI a)), (2, .int (nI d))]) hx hb dX11_show_47 hl (by decide) rfl (fun ls hl => ?_)
      refine lv_iload hx hb dX11_show_49 (lv_at hl 0 rfl) ?_
      refine lv_iconst (v := 3) hx hb dX11_show_51 (by decide) ?_
      refine lv_icmp_ge (tgt := 99) hx hb dX11_show_52 (by decide) (fun c_16 => ?_) (fun c_16 => ?_)
      · exact absurd c_16 (by decide)
      · refine lv_iload_n hx hb dX11_show_55 rfl (lv_at hl 3 rfl) ?_
        refine lv_iload hx hb dX11_show_56 (lv_at hl 0 rfl) ?_
        refine lv_ishr hx hb dX11_show_58 ?_
        refine he_top (0) (by decide) ?_
        refine lv_iconst (v := 1) hx hb dX11_show_59 (by decide) ?_
        refine lv_iand hx hb dX11_show_60 ?_
        refine he_top (0) (by decide) ?_
        refine lv_iconst (v := 1) hx hb dX11_show_61 (by decide) ?_
        refine lv_icmp_ne (tgt := 93) hx hb dX11_show_62 (by decide) (fun c_17 => ?_) (fun c_17 => ?_)
        · refine lv_iinc (v := 1) (lv' := [(6, .int 1), (5, .int 0), (4, .int 0), (3, .int 0), (0, .ref m0), (1, .int (nI a)), (2, .int (nI d))]) hx hb dX11_show_93 hl (k := 0) rfl (by decide) (by decide) rfl (fun ls hl => ?_)
          refine lv_goto (tgt := 49) hx hb dX11_show_96 (by decide) ?_
          refine lv_iload hx hb dX11_show_49 (lv_at hl 0 rfl) ?_
          refine lv_iconst (v := 3) hx hb dX11_show_51 (by decide) ?_
          refine lv_icmp_ge (tgt := 99) hx hb dX11_show_52 (by decide) (fun c_18 => ?_) (fun c_18 => ?_)
          · exact absurd c_18 (by decide)
          · refine lv_iload_n hx hb dX11_show_55 rfl (lv_at hl 3 rfl) ?_
            refine lv_iload hx hb dX11_show_56 (lv_at hl 0 rfl) ?_
            refine lv_ishr hx hb dX11_show_58 ?_
            refine he_top (0) (by decide) ?_
            refine lv_iconst (v := 1) hx hb dX11_show_59 (by decide) ?_
            refine lv_iand hx hb dX11_show_60 ?_
            refine he_top (0) (by decide) ?_
            refine lv_iconst (v := 1) hx hb dX11_show_61 (by decide) ?_
            refine lv_icmp_ne (tgt := 93) hx hb dX11_show_62 (by decide) (fun c_19 => ?_) (fun c_19 => ?_)
            · refine lv_iinc (v := 2) (lv' := [(6, .int 2), (5, .int 0), (4, .int 0), (3, .int 0), (0, .ref m0), (1, .int (nI a)), (2, .int (nI d))]) hx hb dX11_show_93 hl (k := 0) rfl (by decide) (by decide) rfl (fun ls hl => ?_)
              refine lv_goto (tgt := 49) hx hb dX11_show_96 (by decide) ?_
              refine lv_iload hx hb dX11_show_49 (lv_at hl 0 rfl) ?_
              refine lv_iconst (v := 3) hx hb dX11_show_51 (by decide) ?_
              refine lv_icmp_ge (tgt := 99) hx hb dX11_show_52 (by decide) (fun c_20 => ?_) (fun c_20 => ?_)
              · exact absurd c_20 (by decide)
              · refine lv_iload_n hx hb dX11_show_55 rfl (lv_at hl 3 rfl) ?_
                refine lv_iload hx hb dX11_show_56 (lv_at hl 0 rfl) ?_
                refine lv_ishr hx hb dX11_show_58 ?_
                refine he_top (0) (by decide) ?_
                refine lv_iconst (v := 1) hx hb dX11_show_59 (by decide) ?_
                refine lv_iand hx hb dX11_show_60 ?_
                refine he_top (0) (by decide) ?_
                refine lv_iconst (v := 1) hx hb dX11_show_61 (by decide) ?_
                refine lv_icmp_ne (tgt := 93) hx hb dX11_show_62 (by decide) (fun c_21 => ?_) (fun c_21 => ?_)
                · refine lv_iinc (v := 3) (lv' := [(6, .int 3), (5, .int 0), (4, .int 0), (3, .int 0), (0, .ref m0), (1, .int (nI a)), (2, .int (nI d))]) hx hb dX11_show_93 hl (k := 0) rfl (by decide) (by decide) rfl (fun ls hl => ?_)
                  refine lv_goto (tgt := 49) hx hb dX11_show_96 (by decide) ?_
                  refine lv_iload hx hb dX11_show_49 (lv_at hl 0 rfl) ?_
                  refine lv_iconst (v := 3) hx hb dX11_show_51 (by decide) ?_
                  refine lv_icmp_ge (tgt := 99) hx hb dX11_show_52 (by decide) (fun c_22 => ?_) (fun c_22 => ?_)
                  · refine lv_iload hx hb dX11_show_99 (lv_at hl 1 rfl) ?_
                    have hP := hP.sub (ws' := [(m0, .inr (10, [.int 0, .int 0, .int 0, .int (-1), .int 0, .int 0, .int 0, .int 0, .ref fd, .ref rfm, .ref rt_, .ref to_, .ref rw_, .ref wa, .int 0, .ref rk, .ref rb, .ref cn, .ref br, .ref sm, .ref as_, .ref go, .ref sh_, .int 0, .int 1, .int 1, .int 0, .int 0, .int 0, .ref ki, .ref tg, .ref of_, .ref kp, .int sr_15, .ref rs]))]) [1] rfl
                    have hD := hD.sub (ws' := [(m0, .inr (10, [.int 0, .int 0, .int 0, .int (-1), .int 0, .int 0, .int 0, .int 0, .ref fd, .ref rfm, .ref rt_, .ref to_, .ref rw_, .ref wa, .int 0, .ref rk, .ref rb, .ref cn, .ref br, .ref sm, .ref as_, .ref go, .ref sh_, .int 0, .int 1, .int 1, .int 0, .int 0, .int 0, .ref ki, .ref tg, .ref of_, .ref kp, .int sr_15, .ref rs]))]) [1] (by decide) rfl
                    exact he_ri hQ hx hb hr hlk hP hD hS dX11_show_101 (Nat.le_of_ble_eq_true rfl) (Nat.le_of_ble_eq_true rfl) (sr_15) (rfl) (rfl)
                  · exact absurd (by decide) c_22
                · exact absurd c_21 (by decide)
            · exact absurd c_19 (by decide)
        · exact absurd c_17 (by decide)
    · exact absurd (by decide) c_8
  · exact absurd c_4 (by decide)
set_option maxHeartbeats 4000000 in
set_option maxRecDepth 100000 in
theorem c_X11_standsX (l : Launch) (g : he_G) (m0 : Nat) (fd : Nat) (rfm : Nat) (rt_ : Nat) (to_ : Nat) (rw_ : Nat) (wa : Nat) (rk : Nat) (rb : Nat) (cn : Nat) (br : Nat) (sm : Nat) (as_ : Nat) (go : Nat) (sh_ : Nat) (ki : Nat) (tg : Nat) (of_ : Nat) (kp : Nat) (rs : Nat) (rc : Nat → Int32) (x : Int32) (y : Int32) (hbad : he_within x 0 6 = 0 ∨ he_within y 0 6 = 0) : he_I l yX11_stands wsX11_stands 2 43 0 0 g [.ref m0, .int x, .int y] [(m0, .inr (10, [.int 0, .int 0, .int 0, .int (-1), .int 0, .int 0, .int 0, .int 0, .ref fd, .ref rfm, .ref rt_, .ref to_, .ref rw_, .ref wa, .int 0, .ref rk, .ref rb, .ref cn, .ref br, .ref sm, .ref as_, .ref go, .ref sh_, .int 0, .int 1, .int 1, .int 0, .int 0, .int 0, .ref ki, .ref tg, .ref of_, .ref kp, .int 0, .ref rs])), (rfm, .inl (g.2 1, 3, .inl rc))] (fun (r : Int32) (u : Unit) => r = 0) (fun (u : Unit) => [(m0, .inr (10, [.int 1, .int 0, .int 0, .int (-1), .int 0, .int 0, .int 0, .int 0, .ref fd, .ref rfm, .ref rt_, .ref to_, .ref rw_, .ref wa, .int 0, .ref rk, .ref rb, .ref cn, .ref br, .ref sm, .ref as_, .ref go, .ref sh_, .int 0, .int 1, .int 1, .int 0, .int 0, .int 0, .ref ki, .ref tg, .ref of_, .ref kp, .int 0, .ref rs]))]) := by
  refine he_begin (l := l) (g := g) (y := yX11_stands) (wl := wsX11_stands) (fr := 2) (lo := 43) (mc := 0) (ms := 0) (av := [.ref m0, .int x, .int y]) (ws := [(m0, .inr (10, [.int 0, .int 0, .int 0, .int (-1), .int 0, .int 0, .int 0, .int 0, .ref fd, .ref rfm, .ref rt_, .ref to_, .ref rw_, .ref wa, .int 0, .ref rk, .ref rb, .ref cn, .ref br, .ref sm, .ref as_, .ref go, .ref sh_, .int 0, .int 1, .int 1, .int 0, .int 0, .int 0, .ref ki, .ref tg, .ref of_, .ref kp, .int 0, .ref rs])), (rfm, .inl (g.2 1, 3, .inl rc))]) (cc := cX11_stands) (maxL := 5) (ret := (some .int)) (fun A => va_Qi (fun (r : Int32) (u : Unit) => r = 0) (fun u t => he_post g A ((fun (u : Unit) => [(m0, .inr (10, [.int 1, .int 0, .int 0, .int (-1), .int 0, .int 0, .int 0, .int 0, .ref fd, .ref rfm, .ref rt_, .ref to_, .ref rw_, .ref wa, .int 0, .ref rk, .ref rb, .ref cn, .ref br, .ref sm, .ref as_, .ref go, .ref sh_, .int 0, .int 1, .int 1, .int 0, .int 0, .int 0, .ref ki, .ref tg, .ref of_, .ref kp, .int 0, .ref rs]))]) u) t) A) (by decide) rfl (Nat.le_of_ble_eq_true rfl) ?_
  intro p e s m args below meth c A ls H locs Q hQ hB
  obtain ⟨hx, hb, hr, hml, hown, hts, hlk, hin, hP, hK, hD, hS, hA, hE, hl⟩ := hB
  have hl : lv_has ls 5 [(0, .ref m0), (1, .int x), (2, .int y)] := hl
  have f85 := hts (.fieldLink RX11 85 "HiredEnemyModel" "thrown" "I") (by decide +kernel)
  have inX11 : ∀ w ∈ wsX110, w ∈ wsX11_stands := by decide +kernel
  refine lv_aload_n hx hb dX11_stands_0 rfl (lv_at hl 0 rfl) ?_
  refine lv_iconst (v := 0) hx hb dX11_stands_1 (by decide) ?_
  refine va_put (v := .int 0) (ty := .int) (T := TX11) (N := 35) hx hb hts inX11 tyX11 tyX11_ok nmX11 hown hK hP hD hS 0 rfl rfl 0 (by decide) f85 (fun _ h9 => h9) rfl (by decide +kernel) rfl rfl (Nat.le_of_ble_eq_true rfl) dX11_stands_2 (fun H locs hP hD hS => ?_)
  have hP : va_P g.1 vwCl [(m0, .inr (10, [.int 0, .int 0, .int 0, .int (-1), .int 0, .int 0, .int 0, .int 0, .ref fd, .ref rfm, .ref rt_, .ref to_, .ref rw_, .ref wa, .int 0, .ref rk, .ref rb, .ref cn, .ref br, .ref sm, .ref as_, .ref go, .ref sh_, .int 0, .int 1, .int 1, .int 0, .int 0, .int 0, .ref ki, .ref tg, .ref of_, .ref kp, .int 0, .ref rs])), (rfm, .inl (g.2 1, 3, .inl rc))] H := hP
  have hD : va_D A [(m0, .inr (10, [.int 0, .int 0, .int 0, .int (-1), .int 0, .int 0, .int 0, .int 0, .ref fd, .ref rfm, .ref rt_, .ref to_, .ref rw_, .ref wa, .int 0, .ref rk, .ref rb, .ref cn, .ref br, .ref sm, .ref as_, .ref go, .ref sh_, .int 0, .int 1, .int 1, .int 0, .int 0, .int 0, .ref ki, .ref tg, .ref of_, .ref kp, .int 0, .ref rs])), (rfm, .inl (g.2 1, 3, .inl rc))] := hD
  refine lv_aload_n hx hb dX11_stands_5 rfl (lv_at hl 0 rfl) ?_
  refine lv_iload_n hx hb dX11_stands_6 rfl (lv_at hl 1 rfl) ?_
  refine lv_iload_n hx hb dX11_stands_7 rfl (lv_at hl 2 rfl) ?_
  refine he_ci (wc := []) (wr := [(m0, .inr (10, [.int 0, .int 0, .int 0, .int (-1), .int 0, .int 0, .int 0, .int 0, .ref fd, .ref rfm, .ref rt_, .ref to_, .ref rw_, .ref wa, .int 0, .ref rk, .ref rb, .ref cn, .ref br, .ref sm, .ref as_, .ref go, .ref sh_, .int 0, .int 1, .int 1, .int 0, .int 0, .int 0, .ref ki, .ref tg, .ref of_, .ref kp, .int 0, .ref rs])), (rfm, .inl (g.2 1, 3, .inl rc))]) (va_runS (As := [.int x, .int y]) (rest := [.ref m0]) ⟨hx, hb, hml, hown, hts⟩ (c_X11_areTens0 l g x y hbad H.size) (va_cwS 2 hts gX11_stands_X11_areTens rfl rfl rfl (by decide +kernel) ⟨Nat.le_of_ble_eq_true rfl, Nat.le_of_ble_eq_true rfl⟩) (he_preS (wc := []) hK hP hD hS hA hE [] rfl rfl) rfl rfl hl.1 rfl (lv_room (Nat.le_of_ble_eq_true rfl)) dX11_stands_8 ⟨(Nat.le_of_ble_eq_true rfl), (Nat.le_of_ble_eq_true rfl)⟩) hP hD hS hA [] [0, 1] rfl rfl rfl (by decide) (fun r_1 u_2 H locs h_3 hP hD hS => ?_)
  subst h_3
  have hP : va_P g.1 vwCl [(m0, .inr (10, [.int 0, .int 0, .int 0, .int (-1), .int 0, .int 0, .int 0, .int 0, .ref fd, .ref rfm, .ref rt_, .ref to_, .ref rw_, .ref wa, .int 0, .ref rk, .ref rb, .ref cn, .ref br, .ref sm, .ref as_, .ref go, .ref sh_, .int 0, .int 1, .int 1, .int 0, .int 0, .int 0, .ref ki, .ref tg, .ref of_, .ref kp, .int 0, .ref rs])), (rfm, .inl (g.2 1, 3, .inl rc))] H := hP
  have hD : va_D A [(m0, .inr (10, [.int 0, .int 0, .int 0, .int (-1), .int 0, .int 0, .int 0, .int 0, .ref fd, .ref rfm, .ref rt_, .ref to_, .ref rw_, .ref wa, .int 0, .ref rk, .ref rb, .ref cn, .ref br, .ref sm, .ref as_, .ref go, .ref sh_, .int 0, .int 1, .int 1, .int 0, .int 0, .int 0, .ref ki, .ref tg, .ref of_, .ref kp, .int 0, .ref rs])), (rfm, .inl (g.2 1, 3, .inl rc))] := hD
  refine lv_if_ne (tgt := 18) hx hb dX11_stands_11 (by decide) (fun c_4 => ?_) (fun c_4 => ?_)
  · exact absurd (by decide) c_4
  · refine lv_iconst (v := 1) hx hb dX11_stands_14 (by decide) ?_
    refine lv_goto (tgt := 19) hx hb dX11_stands_15 (by decide) ?_
    refine lv_iconst (v := 1) hx hb dX11_stands_19 (by decide) ?_
    refine lv_iconst (v := 2) hx hb dX11_stands_20 (by decide) ?_
    refine he_ci (wc := [(m0, .inr (10, [.int 0, .int 0, .int 0, .int (-1), .int 0, .int 0, .int 0, .int 0, .ref fd, .ref rfm, .ref rt_, .ref to_, .ref rw_, .ref wa, .int 0, .ref rk, .ref rb, .ref cn, .ref br, .ref sm, .ref as_, .ref go, .ref sh_, .int 0, .int 1, .int 1, .int 0, .int 0, .int 0, .ref ki, .ref tg, .ref of_, .ref kp, .int 0, .ref rs])), (rfm, .inl (g.2 1, 3, .inl rc))]) (wr := []) (va_runV (As := [.int 1, .int 1, .int 2]) (rest := []) ⟨hx, hb, hml, hown, hts⟩ (c_X11_bad1 l g m0 fd rfm rt_ to_ rw_ wa rk rb cn br sm as_ go sh_ ki tg of_ kp rs 0 0 (-1) 0 0 0 0 0 0 1 1 0 0 0 0 1 2 rc (by first | assumption | decide | omega) (by first | assumption | decide | omega) H.size) (cwV 3 hts gX11_stands_X11_bad rfl rfl rfl (by decide +kernel) ⟨Nat.le_of_ble_eq_true rfl, Nat.le_of_ble_eq_true rfl⟩) (he_preV (wc := [(m0, .inr (10, [.int 0, .int 0, .int 0, .int (-1), .int 0, .int 0, .int 0, .int 0, .ref fd, .ref rfm, .ref rt_, .ref to_, .ref rw_, .ref wa, .int 0, .ref rk, .ref rb, .ref cn, .ref br, .ref sm, .ref as_, .ref go, .ref sh_, .int 0, .int 1, .int 1, .int 0, .int 0, .int 0, .ref ki, .ref tg, .ref of_, .ref kp, .int 0, .ref rs])), (rfm, .inl (g.2 1, 3, .inl rc))]) hK hP hD hS hA hE [0, 1] rfl rfl 0 rfl rfl) rfl rfl hl.1 rfl (lv_room (Nat.le_of_ble_eq_true rfl)) dX11_stands_21 ⟨(Nat.le_of_ble_eq_true rfl), (Nat.le_of_ble_eq_true rfl)⟩) hP hD hS hA [0, 1] [] rfl rfl rfl (by decide) (fun r_5 u_6 H locs h_7 hP hD hS => ?_)
    subst h_7
    have hP : va_P g.1 vwCl [(m0, .inr (10, [.int 1, .int 0, .int 0, .int (-1), .int 0, .int 0, .int 0, .int 0, .ref fd, .ref rfm, .ref rt_, .ref to_, .ref rw_, .ref wa, .int 0, .ref rk, .ref rb, .ref cn, .ref br, .ref sm, .ref as_, .ref go, .ref sh_, .int 0, .int 1, .int 1, .int 0, .int 0, .int 0, .ref ki, .ref tg, .ref of_, .ref kp, .int 0, .ref rs])), (rfm, .inl (g.2 1, 3, .inl (upd rc 2 (rc 2 + 1))))] H := hP
    have hD : va_D A [(m0, .inr (10, [.int 1, .int 0, .int 0, .int (-1), .int 0, .int 0, .int 0, .int 0, .ref fd, .ref rfm, .ref rt_, .ref to_, .ref rw_, .ref wa, .int 0, .ref rk, .ref rb, .ref cn, .ref br, .ref sm, .ref as_, .ref go, .ref sh_, .int 0, .int 1, .int 1, .int 0, .int 0, .int 0, .ref ki, .ref tg, .ref of_, .ref kp, .int 0, .ref rs])), (rfm, .inl (g.2 1, 3, .inl (upd rc 2 (rc 2 + 1))))] := hD
    refine lv_if_eq (tgt := 29) hx hb dX11_stands_24 (by decide) (fun c_8 => ?_) (fun c_8 => ?_)
    · exact absurd c_8 (by decide)
    · refine lv_iconst (v := 0) hx hb dX11_stands_27 (by decide) ?_
      have hP := hP.sub (ws' := [(m0, .inr (10, [.int 1, .int 0, .int 0, .int (-1), .int 0, .int 0, .int 0, .int 0, .ref fd, .ref rfm, .ref rt_, .ref to_, .ref rw_, .ref wa, .int 0, .ref rk, .ref rb, .ref cn, .ref br, .ref sm, .ref as_, .ref go, .ref sh_, .int 0, .int 1, .int 1, .int 0, .int 0, .int 0, .ref ki, .ref tg, .ref of_, .ref kp, .int 0, .ref rs]))]) [0] rfl
      have hD := hD.sub (ws' := [(m0, .inr (10, [.int 1, .int 0, .int 0, .int (-1), .int 0, .int 0, .int 0, .int 0, .ref fd, .ref rfm, .ref rt_, .ref to_, .ref rw_, .ref wa, .int 0, .ref rk, .ref rb, .ref cn, .ref br, .ref sm, .ref as_, .ref go, .ref sh_, .int 0, .int 1, .int 1, .int 0, .int 0, .int 0, .ref ki, .ref tg, .ref of_, .ref kp, .int 0, .ref rs]))]) [0] (by decide) rfl
      exact he_ri hQ hx hb hr hlk hP hD hS dX11_stands_28 (Nat.le_of_ble_eq_true rfl) (Nat.le_of_ble_eq_true rfl) (()) (rfl) (rfl)
set_option maxHeartbeats 4000000 in
set_option maxRecDepth 100000 in
theorem c_X11_showX (l : Launch) (g : he_G) (m0 : Nat) (fd : Nat) (rfm : Nat) (rt_ : Nat) (to_ : Nat) (rw_ : Nat) (wa : Nat) (rk : Nat) (rb : Nat) (cn : Nat) (br : Nat) (sm : Nat) (as_ : Nat) (go : Nat) (sh_ : Nat) (ki : Nat) (tg : Nat) (of_ : Nat) (kp : Nat) (rs : Nat) (rc : Nat → Int32) (x : Int32) (y : Int32) (hbad : he_within x 0 6 = 0 ∨ he_within y 0 6 = 0) : he_I l yX11_show wsX11_show 2 43 0 0 g [.ref m0, .int x, .int y] [(m0, .inr (10, [.int 0, .int 0, .int 0, .int (-1), .int 0, .int 0, .int 0, .int 0, .ref fd, .ref rfm, .ref rt_, .ref to_, .ref rw_, .ref wa, .int 0, .ref rk, .ref rb, .ref cn, .ref br, .ref sm, .ref as_, .ref go, .ref sh_, .int 0, .int 1, .int 1, .int 0, .int 0, .int 0, .ref ki, .ref tg, .ref of_, .ref kp, .int 0, .ref rs])), (rfm, .inl (g.2 1, 3, .inl rc))] (fun (r : Int32) (u : Unit) => r = 0) (fun (u : Unit) => [(m0, .inr (10, [.int 1, .int 0, .int 0, .int (-1), .int 0, .int 0, .int 0, .int 0, .ref fd, .ref rfm, .ref rt_, .ref to_, .ref rw_, .ref wa, .int 0, .ref rk, .ref rb, .ref cn, .ref br, .ref sm, .ref as_, .ref go, .ref sh_, .int 0, .int 1, .int 1, .int 0, .int 0, .int 0, .ref ki, .ref tg, .ref of_, .ref kp, .int 0, .ref rs]))]) := by
  refine he_begin (l := l) (g := g) (y := yX11_show) (wl := wsX11_show) (fr := 2) (lo := 43) (mc := 0) (ms := 0) (av := [.ref m0, .int x, .int y]) (ws := [(m0, .inr (10, [.int 0, .int 0, .int 0, .int (-1), .int 0, .int 0, .int 0, .int 0, .ref fd, .ref rfm, .ref rt_, .ref to_, .ref rw_, .ref wa, .int 0, .ref rk, .ref rb, .ref cn, .ref br, .ref sm, .ref as_, .ref go, .ref sh_, .int 0, .int 1, .int 1, .int 0, .int 0, .int 0, .ref ki, .ref tg, .ref of_, .ref kp, .int 0, .ref rs])), (rfm, .inl (g.2 1, 3, .inl rc))]) (cc := cX11_show) (maxL := 7) (ret := (some .int)) (fun A => va_Qi (fun (r : Int32) (u : Unit) => r = 0) (fun u t => he_post g A ((fun (u : Unit) => [(m0, .inr (10, [.int 1, .int 0, .int 0, .int (-1), .int 0, .int 0, .int 0, .int 0, .ref fd, .ref rfm, .ref rt_, .ref to_, .ref rw_, .ref wa, .int 0, .ref rk, .ref rb, .ref cn, .ref br, .ref sm, .ref as_, .ref go, .ref sh_, .int 0, .int 1, .int 1, .int 0, .int 0, .int 0, .ref ki, .ref tg, .ref of_, .ref kp, .int 0, .ref rs]))]) u) t) A) (by decide) rfl (Nat.le_of_ble_eq_true rfl) ?_
  intro p e s m args below meth c A ls H locs Q hQ hB
  obtain ⟨hx, hb, hr, hml, hown, hts, hlk, hin, hP, hK, hD, hS, hA, hE, hl⟩ := hB
  have hl : lv_has ls 7 [(0, .ref m0), (1, .int x), (2, .int y)] := hl
  have f85 := hts (.fieldLink RX11 85 "HiredEnemyModel" "thrown" "I") (by decide +kernel)
  have inX11 : ∀ w ∈ wsX110, w ∈ wsX11_show := by decide +kernel
  refine lv_aload_n hx hb dX11_show_0 rfl (lv_at hl 0 rfl) ?_
  refine lv_iconst (v := 0) hx hb dX11_show_1 (by decide) ?_
  refine va_put (v := .int 0) (ty := .int) (T := TX11) (N := 35) hx hb hts inX11 tyX11 tyX11_ok nmX11 hown hK hP hD hS 0 rfl rfl 0 (by decide) f85 (fun _ h9 => h9) rfl (by decide +kernel) rfl rfl (Nat.le_of_ble_eq_true rfl) dX11_show_2 (fun H locs hP hD hS => ?_)
  have hP : va_P g.1 vwCl [(m0, .inr (10, [.int 0, .int 0, .int 0, .int (-1), .int 0, .int 0, .int 0, .int 0, .ref fd, .ref rfm, .ref rt_, .ref to_, .ref rw_, .ref wa, .int 0, .ref rk, .ref rb, .ref cn, .ref br, .ref sm, .ref as_, .ref go, .ref sh_, .int 0, .int 1, .int 1, .int 0, .int 0, .int 0, .ref ki, .ref tg, .ref of_, .ref kp, .int 0, .ref rs])), (rfm, .inl (g.2 1, 3, .inl rc))] H := hP
  have hD : va_D A [(m0, .inr (10, [.int 0, .int 0, .int 0, .int (-1), .int 0, .int 0, .int 0, .int 0, .ref fd, .ref rfm, .ref rt_, .ref to_, .ref rw_, .ref wa, .int 0, .ref rk, .ref rb, .ref cn, .ref br, .ref sm, .ref as_, .ref go, .ref sh_, .int 0, .int 1, .int 1, .int 0, .int 0, .int 0, .ref ki, .ref tg, .ref of_, .ref kp, .int 0, .ref rs])), (rfm, .inl (g.2 1, 3, .inl rc))] := hD
  refine lv_aload_n hx hb dX11_show_5 rfl (lv_at hl 0 rfl) ?_
  refine lv_iload_n hx hb dX11_show_6 rfl (lv_at hl 1 rfl) ?_
  refine lv_iload_n hx hb dX11_show_7 rfl (lv_at hl 2 rfl) ?_
  refine he_ci (wc := []) (wr := [(m0, .inr (10, [.int 0, .int 0, .int 0, .int (-1), .int 0, .int 0, .int 0, .int 0, .ref fd, .ref rfm, .ref rt_, .ref to_, .ref rw_, .ref wa, .int 0, .ref rk, .ref rb, .ref cn, .ref br, .ref sm, .ref as_, .ref go, .ref sh_, .int 0, .int 1, .int 1, .int 0, .int 0, .int 0, .ref ki, .ref tg, .ref of_, .ref kp, .int 0, .ref rs])), (rfm, .inl (g.2 1, 3, .inl rc))]) (va_runS (As := [.int x, .int y]) (rest := [.ref m0]) ⟨hx, hb, hml, hown, hts⟩ (c_X11_areTens0 l g x y hbad H.size) (va_cwS 2 hts gX11_show_X11_areTens rfl rfl rfl (by decide +kernel) ⟨Nat.le_of_ble_eq_true rfl, Nat.le_of_ble_eq_true rfl⟩) (he_preS (wc := []) hK hP hD hS hA hE [] rfl rfl) rfl rfl hl.1 rfl (lv_room (Nat.le_of_ble_eq_true rfl)) dX11_show_8 ⟨(Nat.le_of_ble_eq_true rfl), (Nat.le_of_ble_eq_true rfl)⟩) hP hD hS hA [] [0, 1] rfl rfl rfl (by decide) (fun r_1 u_2 H locs h_3 hP hD hS => ?_)
  subst h_3
  have hP : va_P g.1 vwCl [(m0, .inr (10, [.int 0, .int 0, .int 0, .int (-1), .int 0, .int 0, .int 0, .int 0, .ref fd, .ref rfm, .ref rt_, .ref to_, .ref rw_, .ref wa, .int 0, .ref rk, .ref rb, .ref cn, .ref br, .ref sm, .ref as_, .ref go, .ref sh_, .int 0, .int 1, .int 1, .int 0, .int 0, .int 0, .ref ki, .ref tg, .ref of_, .ref kp, .int 0, .ref rs])), (rfm, .inl (g.2 1, 3, .inl rc))] H := hP
  have hD : va_D A [(m0, .inr (10, [.int 0, .int 0, .int 0, .int (-1), .int 0, .int 0, .int 0, .int 0, .ref fd, .ref rfm, .ref rt_, .ref to_, .ref rw_, .ref wa, .int 0, .ref rk, .ref rb, .ref cn, .ref br, .ref sm, .ref as_, .ref go, .ref sh_, .int 0, .int 1, .int 1, .int 0, .int 0, .int 0, .ref ki, .ref tg, .ref of_, .ref kp, .int 0, .ref rs])), (rfm, .inl (g.2 1, 3, .inl rc))] := hD
  refine lv_if_ne (tgt := 18) hx hb dX11_show_11 (by decide) (fun c_4 => ?_) (fun c_4 => ?_)
  · exact absurd (by decide) c_4
  · refine lv_iconst (v := 1) hx hb dX11_show_14 (by decide) ?_
    refine lv_goto (tgt := 19) hx hb dX11_show_15 (by decide) ?_
    refine lv_iconst (v := 1) hx hb dX11_show_19 (by decide) ?_
    refine lv_iconst (v := 2) hx hb dX11_show_20 (by decide) ?_
    refine he_ci (wc := [(m0, .inr (10, [.int 0, .int 0, .int 0, .int (-1), .int 0, .int 0, .int 0, .int 0, .ref fd, .ref rfm, .ref rt_, .ref to_, .ref rw_, .ref wa, .int 0, .ref rk, .ref rb, .ref cn, .ref br, .ref sm, .ref as_, .ref go, .ref sh_, .int 0, .int 1, .int 1, .int 0, .int 0, .int 0, .ref ki, .ref tg, .ref of_, .ref kp, .int 0, .ref rs])), (rfm, .inl (g.2 1, 3, .inl rc))]) (wr := []) (va_runV (As := [.int 1, .int 1, .int 2]) (rest := []) ⟨hx, hb, hml, hown, hts⟩ (c_X11_bad1 l g m0 fd rfm rt_ to_ rw_ wa rk rb cn br sm as_ go sh_ ki tg of_ kp rs 0 0 (-1) 0 0 0 0 0 0 1 1 0 0 0 0 1 2 rc (by first | assumption | decide | omega) (by first | assumption | decide | omega) H.size) (cwV 3 hts gX11_show_X11_bad rfl rfl rfl (by decide +kernel) ⟨Nat.le_of_ble_eq_true rfl, Nat.le_of_ble_eq_true rfl⟩) (he_preV (wc := [(m0, .inr (10, [.int 0, .int 0, .int 0, .int (-1), .int 0, .int 0, .int 0, .int 0, .ref fd, .ref rfm, .ref rt_, .ref to_, .ref rw_, .ref wa, .int 0, .ref rk, .ref rb, .ref cn, .ref br, .ref sm, .ref as_, .ref go, .ref sh_, .int 0, .int 1, .int 1, .int 0, .int 0, .int 0, .ref ki, .ref tg, .ref of_, .ref kp, .int 0, .ref rs])), (rfm, .inl (g.2 1, 3, .inl rc))]) hK hP hD hS hA hE [0, 1] rfl rfl 0 rfl rfl) rfl rfl hl.1 rfl (lv_room (Nat.le_of_ble_eq_true rfl)) dX11_show_21 ⟨(Nat.le_of_ble_eq_true rfl), (Nat.le_of_ble_eq_true rfl)⟩) hP hD hS hA [0, 1] [] rfl rfl rfl (by decide) (fun r_5 u_6 H locs h_7 hP hD hS => ?_)
    subst h_7
    have hP : va_P g.1 vwCl [(m0, .inr (10, [.int 1, .int 0, .int 0, .int (-1), .int 0, .int 0, .int 0, .int 0, .ref fd, .ref rfm, .ref rt_, .ref to_, .ref rw_, .ref wa, .int 0, .ref rk, .ref rb, .ref cn, .ref br, .ref sm, .ref as_, .ref go, .ref sh_, .int 0, .int 1, .int 1, .int 0, .int 0, .int 0, .ref ki, .ref tg, .ref of_, .ref kp, .int 0, .ref rs])), (rfm, .inl (g.2 1, 3, .inl (upd rc 2 (rc 2 + 1))))] H := hP
    have hD : va_D A [(m0, .inr (10, [.int 1, .int 0, .int 0, .int (-1), .int 0, .int 0, .int 0, .int 0, .ref fd, .ref rfm, .ref rt_, .ref to_, .ref rw_, .ref wa, .int 0, .ref rk, .ref rb, .ref cn, .ref br, .ref sm, .ref as_, .ref go, .ref sh_, .int 0, .int 1, .int 1, .int 0, .int 0, .int 0, .ref ki, .ref tg, .ref of_, .ref kp, .int 0, .ref rs])), (rfm, .inl (g.2 1, 3, .inl (upd rc 2 (rc 2 + 1))))] := hD
    refine lv_if_eq (tgt := 29) hx hb dX11_show_24 (by decide) (fun c_8 => ?_) (fun c_8 => ?_)
    · exact absurd c_8 (by decide)
    · refine lv_iconst (v := 0) hx hb dX11_show_27 (by decide) ?_
      have hP := hP.sub (ws' := [(m0, .inr (10, [.int 1, .int 0, .int 0, .int (-1), .int 0, .int 0, .int 0, .int 0, .ref fd, .ref rfm, .ref rt_, .ref to_, .ref rw_, .ref wa, .int 0, .ref rk, .ref rb, .ref cn, .ref br, .ref sm, .ref as_, .ref go, .ref sh_, .int 0, .int 1, .int 1, .int 0, .int 0, .int 0, .ref ki, .ref tg, .ref of_, .ref kp, .int 0, .ref rs]))]) [0] rfl
      have hD := hD.sub (ws' := [(m0, .inr (10, [.int 1, .int 0, .int 0, .int (-1), .int 0, .int 0, .int 0, .int 0, .ref fd, .ref rfm, .ref rt_, .ref to_, .ref rw_, .ref wa, .int 0, .ref rk, .ref rb, .ref cn, .ref br, .ref sm, .ref as_, .ref go, .ref sh_, .int 0, .int 1, .int 1, .int 0, .int 0, .int 0, .ref ki, .ref tg, .ref of_, .ref kp, .int 0, .ref rs]))]) [0] (by decide) rfl
      exact he_ri hQ hx hb hr hlk hP hD hS dX11_show_28 (Nat.le_of_ble_eq_true rfl) (Nat.le_of_ble_eq_true rfl) (()) (rfl) (rfl)
set_option maxHeartbeats 4000000 in
set_option maxRecDepth 100000 in
theorem c_X11_earnestX (l : Launch) (g : he_G) (m0 : Nat) (fd : Nat) (rfm : Nat) (rt_ : Nat) (to_ : Nat) (rw_ : Nat) (wa : Nat) (rk : Nat) (rb : Nat) (cn : Nat) (br : Nat) (sm : Nat) (as_ : Nat) (go : Nat) (sh_ : Nat) (ki : Nat) (tg : Nat) (of_ : Nat) (kp : Nat) (rs : Nat) (rc : Nat → Int32) (x : Int32) (y : Int32) (z : Int32) (hbad : he_within x 0 6 = 0 ∨ he_within y 0 6 = 0 ∨ he_within z 0 1 = 0) : he_I l yX11_earnest wsX11_earnest 2 43 0 0 g [.ref m0, .int x, .int y, .int z] [(m0, .inr (10, [.int 0, .int 0, .int 0, .int (-1), .int 0, .int 0, .int 0, .int 0, .ref fd, .ref rfm, .ref rt_, .ref to_, .ref rw_, .ref wa, .int 0, .ref rk, .ref rb, .ref cn, .ref br, .ref sm, .ref as_, .ref go, .ref sh_, .int 0, .int 1, .int 1, .int 0, .int 0, .int 0, .ref ki, .ref tg, .ref of_, .ref kp, .int 0, .ref rs])), (rfm, .inl (g.2 1, 3, .inl rc))] (fun (r : Int32) (u : Unit) => r = 0) (fun (u : Unit) => [(m0, .inr (10, [.int 1, .int 0, .int 0, .int (-1), .int 0, .int 0, .int 0, .int 0, .ref fd, .ref rfm, .ref rt_, .ref to_, .ref rw_, .ref wa, .int 0, .ref rk, .ref rb, .ref cn, .ref br, .ref sm, .ref as_, .ref go, .ref sh_, .int 0, .int 1, .int 1, .int 0, .int 0, .int 0, .ref ki, .ref tg, .ref of_, .ref kp, .int 0, .ref rs]))]) := by
  refine he_begin (l := l) (g := g) (y := yX11_earnest) (wl := wsX11_earnest) (fr := 2) (lo := 43) (mc := 0) (ms := 0) (av := [.ref m0, .int x, .int y, .int z]) (ws := [(m0, .inr (10, [.int 0, .int 0, .int 0, .int (-1), .int 0, .int 0, .int 0, .int 0, .ref fd, .ref rfm, .ref rt_, .ref to_, .ref rw_, .ref wa, .int 0, .ref rk, .ref rb, .ref cn, .ref br, .ref sm, .ref as_, .ref go, .ref sh_, .int 0, .int 1, .int 1, .int 0, .int 0, .int 0, .ref ki, .ref tg, .ref of_, .ref kp, .int 0, .ref rs])), (rfm, .inl (g.2 1, 3, .inl rc))]) (cc := cX11_earnest) (maxL := 4) (ret := (some .int)) (fun A => va_Qi (fun (r : Int32) (u : Unit) => r = 0) (fun u t => he_post g A ((fun (u : Unit) => [(m0, .inr (10, [.int 1, .int 0, .int 0, .int (-1), .int 0, .int 0, .int 0, .int 0, .ref fd, .ref rfm, .ref rt_, .ref to_, .ref rw_, .ref wa, .int 0, .ref rk, .ref rb, .ref cn, .ref br, .ref sm, .ref as_, .ref go, .ref sh_, .int 0, .int 1, .int 1, .int 0, .int 0, .int 0, .ref ki, .ref tg, .ref of_, .ref kp, .int 0, .ref rs]))]) u) t) A) (by decide) rfl (Nat.le_of_ble_eq_true rfl) ?_
  intro p e s m args below meth c A ls H locs Q hQ hB
  obtain ⟨hx, hb, hr, hml, hown, hts, hlk, hin, hP, hK, hD, hS, hA, hE, hl⟩ := hB
  have hl : lv_has ls 4 [(0, .ref m0), (1, .int x), (2, .int y), (3, .int z)] := hl
  have f85 := hts (.fieldLink RX11 85 "HiredEnemyModel" "thrown" "I") (by decide +kernel)
  have inX11 : ∀ w ∈ wsX110, w ∈ wsX11_earnest := by decide +kernel
  refine lv_aload_n hx hb dX11_earnest_0 rfl (lv_at hl 0 rfl) ?_
  refine lv_iconst (v := 0) hx hb dX11_earnest_1 (by decide) ?_
  refine va_put (v := .int 0) (ty := .int) (T := TX11) (N := 35) hx hb hts inX11 tyX11 tyX11_ok nmX11 hown hK hP hD hS 0 rfl rfl 0 (by decide) f85 (fun _ h9 => h9) rfl (by decide +kernel) rfl rfl (Nat.le_of_ble_eq_true rfl) dX11_earnest_2 (fun H locs hP hD hS => ?_)
  have hP : va_P g.1 vwCl [(m0, .inr (10, [.int 0, .int 0, .int 0, .int (-1), .int 0, .int 0, .int 0, .int 0, .ref fd, .ref rfm, .ref rt_, .ref to_, .ref rw_, .ref wa, .int 0, .ref rk, .ref rb, .ref cn, .ref br, .ref sm, .ref as_, .ref go, .ref sh_, .int 0, .int 1, .int 1, .int 0, .int 0, .int 0, .ref ki, .ref tg, .ref of_, .ref kp, .int 0, .ref rs])), (rfm, .inl (g.2 1, 3, .inl rc))] H := hP
  have hD : va_D A [(m0, .inr (10, [.int 0, .int 0, .int 0, .int (-1), .int 0, .int 0, .int 0, .int 0, .ref fd, .ref rfm, .ref rt_, .ref to_, .ref rw_, .ref wa, .int 0, .ref rk, .ref rb, .ref cn, .ref br, .ref sm, .ref as_, .ref go, .ref sh_, .int 0, .int 1, .int 1, .int 0, .int 0, .int 0, .ref ki, .ref tg, .ref of_, .ref kp, .int 0, .ref rs])), (rfm, .inl (g.2 1, 3, .inl rc))] := hD
  refine lv_aload_n hx hb dX11_earnest_5 rfl (lv_at hl 0 rfl) ?_
  refine lv_iload_n hx hb dX11_earnest_6 rfl (lv_at hl 1 rfl) ?_
  refine lv_iload_n hx hb dX11_earnest_7 rfl (lv_at hl 2 rfl) ?_
  rcases Decidable.em (he_within x 0 6 = 0 ∨ he_within y 0 6 = 0) with hs_1 | hs_1
  · refine he_ci (wc := []) (wr := [(m0, .inr (10, [.int 0, .int 0, .int 0, .int (-1), .int 0, .int 0, .int 0, .int 0, .ref fd, .ref rfm, .ref rt_, .ref to_, .ref rw_, .ref wa, .int 0, .ref rk, .ref rb, .ref cn, .ref br, .ref sm, .ref as_, .ref go, .ref sh_, .int 0, .int 1, .int 1, .int 0, .int 0, .int 0, .ref ki, .ref tg, .ref of_, .ref kp, .int 0, .ref rs])), (rfm, .inl (g.2 1, 3, .inl rc))]) (va_runS (As := [.int x, .int y]) (rest := [.ref m0]) ⟨hx, hb, hml, hown, hts⟩ (c_X11_areTens0 l g x y hs_1 H.size) (va_cwS 2 hts gX11_earnest_X11_areTens rfl rfl rfl (by decide +kernel) ⟨Nat.le_of_ble_eq_true rfl, Nat.le_of_ble_eq_true rfl⟩) (he_preS (wc := []) hK hP hD hS hA hE [] rfl rfl) rfl rfl hl.1 rfl (lv_room (Nat.le_of_ble_eq_true rfl)) dX11_earnest_8 ⟨(Nat.le_of_ble_eq_true rfl), (Nat.le_of_ble_eq_true rfl)⟩) hP hD hS hA [] [0, 1] rfl rfl rfl (by decide) (fun r_2 u_3 H locs h_4 hP hD hS => ?_)
    subst h_4
    have hP : va_P g.1 vwCl [(m0, .inr (10, [.int 0, .int 0, .int 0, .int (-1), .int 0, .int 0, .int 0, .int 0, .ref fd, .ref rfm, .ref rt_, .ref to_, .ref rw_, .ref wa, .int 0, .ref rk, .ref rb, .ref cn, .ref br, .ref sm, .ref as_, .ref go, .ref sh_, .int 0, .int 1, .int 1, .int 0, .int 0, .int 0, .ref ki, .ref tg, .ref of_, .ref kp, .int 0, .ref rs])), (rfm, .inl (g.2 1, 3, .inl rc))] H := hP
    have hD : va_D A [(m0, .inr (10, [.int 0, .int 0, .int 0, .int (-1), .int 0, .int 0, .int 0, .int 0, .ref fd, .ref rfm, .ref rt_, .ref to_, .ref rw_, .ref wa, .int 0, .ref rk, .ref rb, .ref cn, .ref br, .ref sm, .ref as_, .ref go, .ref sh_, .int 0, .int 1, .int 1, .int 0, .int 0, .int 0, .ref ki, .ref tg, .ref of_, .ref kp, .int 0, .ref rs])), (rfm, .inl (g.2 1, 3, .inl rc))] := hD
    refine lv_if_eq (tgt := 23) hx hb dX11_earnest_11 (by decide) (fun c_5 => ?_) (fun c_5 => ?_)
    · refine lv_iconst (v := 1) hx hb dX11_earnest_23 (by decide) ?_
      refine lv_goto (tgt := 28) hx hb dX11_earnest_24 (by decide) ?_
      refine lv_iconst (v := 1) hx hb dX11_earnest_28 (by decide) ?_
      refine lv_iconst (v := 2) hx hb dX11_earnest_29 (by decide) ?_
      refine he_ci (wc := [(m0, .inr (10, [.int 0, .int 0, .int 0, .int (-1), .int 0, .int 0, .int 0, .int 0, .ref fd, .ref rfm, .ref rt_, .ref to_, .ref rw_, .ref wa, .int 0, .ref rk, .ref rb, .ref cn, .ref br, .ref sm, .ref as_, .ref go, .ref sh_, .int 0, .int 1, .int 1, .int 0, .int 0, .int 0, .ref ki, .ref tg, .ref of_, .ref kp, .int 0, .ref rs])), (rfm, .inl (g.2 1, 3, .inl rc))]) (wr := []) (va_runV (As := [.int 1, .int 1, .int 2]) (rest := []) ⟨hx, hb, hml, hown, hts⟩ (c_X11_bad1 l g m0 fd rfm rt_ to_ rw_ wa rk rb cn br sm as_ go sh_ ki tg of_ kp rs 0 0 (-1) 0 0 0 0 0 0 1 1 0 0 0 0 1 2 rc (by first | assumption | decide | omega) (by first | assumption | decide | omega) H.size) (cwV 3 hts gX11_earnest_X11_bad rfl rfl rfl (by decide +kernel) ⟨Nat.le_of_ble_eq_true rfl, Nat.le_of_ble_eq_true rfl⟩) (he_preV (wc := [(m0, .inr (10, [.int 0, .int 0, .int 0, .int (-1), .int 0, .int 0, .int 0, .int 0, .ref fd, .ref rfm, .ref rt_, .ref to_, .ref rw_, .ref wa, .int 0, .ref rk, .ref rb, .ref cn, .ref br, .ref sm, .ref as_, .ref go, .ref sh_, .int 0, .int 1, .int 1, .int 0, .int 0, .int 0, .ref ki, .ref tg, .ref of_, .ref kp, .int 0, .ref rs])), (rfm, .inl (g.2 1, 3, .inl rc))]) hK hP hD hS hA hE [0, 1] rfl rfl 0 rfl rfl) rfl rfl hl.1 rfl (lv_room (Nat.le_of_ble_eq_true rfl)) dX11_earnest_30 ⟨(Nat.le_of_ble_eq_true rfl), (Nat.le_of_ble_eq_true rfl)⟩) hP hD hS hA [0, 1] [] rfl rfl rfl (by decide) (fun r_6 u_7 H locs h_8 hP hD hS => ?_)
      subst h_8
      have hP : va_P g.1 vwCl [(m0, .inr (10, [.int 1, .int 0, .int 0, .int (-1), .int 0, .int 0, .int 0, .int 0, .ref fd, .ref rfm, .ref rt_, .ref to_, .ref rw_, .ref wa, .int 0, .ref rk, .ref rb, .ref cn, .ref br, .ref sm, .ref as_, .ref go, .ref sh_, .int 0, .int 1, .int 1, .int 0, .int 0, .int 0, .ref ki, .ref tg, .ref of_, .ref kp, .int 0, .ref rs])), (rfm, .inl (g.2 1, 3, .inl (upd rc 2 (rc 2 + 1))))] H := hP
      have hD : va_D A [(m0, .inr (10, [.int 1, .int 0, .int 0, .int (-1), .int 0, .int 0, .int 0, .int 0, .ref fd, .ref rfm, .ref rt_, .ref to_, .ref rw_, .ref wa, .int 0, .ref rk, .ref rb, .ref cn, .ref br, .ref sm, .ref as_, .ref go, .ref sh_, .int 0, .int 1, .int 1, .int 0, .int 0, .int 0, .ref ki, .ref tg, .ref of_, .ref kp, .int 0, .ref rs])), (rfm, .inl (g.2 1, 3, .inl (upd rc 2 (rc 2 + 1))))] := hD
      refine lv_if_eq (tgt := 38) hx hb dX11_earnest_33 (by decide) (fun c_9 => ?_) (fun c_9 => ?_)
      · exact absurd c_9 (by decide)
      · refine lv_iconst (v := 0) hx hb dX11_earnest_36 (by decide) ?_
        have hP := hP.sub (ws' := [(m0, .inr (10, [.int 1, .int 0, .int 0, .int (-1), .int 0, .int 0, .int 0, .int 0, .ref fd, .ref rfm, .ref rt_, .ref to_, .ref rw_, .ref wa, .int 0, .ref rk, .ref rb, .ref cn, .ref br, .ref sm, .ref as_, .ref go, .ref sh_, .int 0, .int 1, .int 1, .int 0, .int 0, .int 0, .ref ki, .ref tg, .ref of_, .ref kp, .int 0, .ref rs]))]) [0] rfl
        have hD := hD.sub (ws' := [(m0, .inr (10, [.int 1, .int 0, .int 0, .int (-1), .int 0, .int 0, .int 0, .int 0, .ref fd, .ref rfm, .ref rt_, .ref to_, .ref rw_, .ref wa, .int 0, .ref rk, .ref rb, .ref cn, .ref br, .ref sm, .ref as_, .ref go, .ref sh_, .int 0, .int 1, .int 1, .int 0, .int 0, .int 0, .ref ki, .ref tg, .ref of_, .ref kp, .int 0, .ref rs]))]) [0] (by decide) rfl
        exact he_ri hQ hx hb hr hlk hP hD hS dX11_earnest_37 (Nat.le_of_ble_eq_true rfl) (Nat.le_of_ble_eq_true rfl) (()) (rfl) (rfl)
    · exact absurd (by decide) c_5
  · refine he_ci (wc := []) (wr := [(m0, .inr (10, [.int 0, .int 0, .int 0, .int (-1), .int 0, .int 0, .int 0, .int 0, .ref fd, .ref rfm, .ref rt_, .ref to_, .ref rw_, .ref wa, .int 0, .ref rk, .ref rb, .ref cn, .ref br, .ref sm, .ref as_, .ref go, .ref sh_, .int 0, .int 1, .int 1, .int 0, .int 0, .int 0, .ref ki, .ref tg, .ref of_, .ref kp, .int 0, .ref rs])), (rfm, .inl (g.2 1, 3, .inl rc))]) (va_runS (As := [.int x, .int y]) (rest := [.ref m0]) ⟨hx, hb, hml, hown, hts⟩ (c_X11_areTens1 l g x y (fun h9 => hs_1 (Or.inl h9)) (fun h9 => hs_1 (Or.inr h9)) H.size) (va_cwS 2 hts gX11_earnest_X11_areTens rfl rfl rfl (by decide +kernel) ⟨Nat.le_of_ble_eq_true rfl, Nat.le_of_ble_eq_true rfl⟩) (he_preS (wc := []) hK hP hD hS hA hE [] rfl rfl) rfl rfl hl.1 rfl (lv_room (Nat.le_of_ble_eq_true rfl)) dX11_earnest_8 ⟨(Nat.le_of_ble_eq_true rfl), (Nat.le_of_ble_eq_true rfl)⟩) hP hD hS hA [] [0, 1] rfl rfl rfl (by decide) (fun r_10 u_11 H locs h_12 hP hD hS => ?_)
    subst h_12
    have hP : va_P g.1 vwCl [(m0, .inr (10, [.int 0, .int 0, .int 0, .int (-1), .int 0, .int 0, .int 0, .int 0, .ref fd, .ref rfm, .ref rt_, .ref to_, .ref rw_, .ref wa, .int 0, .ref rk, .ref rb, .ref cn, .ref br, .ref sm, .ref as_, .ref go, .ref sh_, .int 0, .int 1, .int 1, .int 0, .int 0, .int 0, .ref ki, .ref tg, .ref of_, .ref kp, .int 0, .ref rs])), (rfm, .inl (g.2 1, 3, .inl rc))] H := hP
    have hD : va_D A [(m0, .inr (10, [.int 0, .int 0, .int 0, .int (-1), .int 0, .int 0, .int 0, .int 0, .ref fd, .ref rfm, .ref rt_, .ref to_, .ref rw_, .ref wa, .int 0, .ref rk, .ref rb, .ref cn, .ref br, .ref sm, .ref as_, .ref go, .ref sh_, .int 0, .int 1, .int 1, .int 0, .int 0, .int 0, .ref ki, .ref tg, .ref of_, .ref kp, .int 0, .ref rs])), (rfm, .inl (g.2 1, 3, .inl rc))] := hD
    refine lv_if_eq (tgt := 23) hx hb dX11_earnest_11 (by decide) (fun c_13 => ?_) (fun c_13 => ?_)
    · exact absurd c_13 (by decide)
    · refine lv_iload_n hx hb dX11_earnest_14 rfl (lv_at hl 3 rfl) ?_
      refine lv_iconst (v := 0) hx hb dX11_earnest_15 (by decide) ?_
      refine lv_iconst (v := 1) hx hb dX11_earnest_16 (by decide) ?_
      refine he_ci (wc := []) (wr := [(m0, .inr (10, [.int 0, .int 0, .int 0, .int (-1), .int 0, .int 0, .int 0, .int 0, .ref fd, .ref rfm, .ref rt_, .ref to_, .ref rw_, .ref wa, .int 0, .ref rk, .ref rb, .ref cn, .ref br, .ref sm, .ref as_, .ref go, .ref sh_, .int 0, .int 1, .int 1, .int 0, .int 0, .int 0, .ref ki, .ref tg, .ref of_, .ref kp, .int 0, .ref rs])), (rfm, .inl (g.2 1, 3, .inl rc))]) (va_runS (As := [.int z, .int 0, .int 1]) (rest := [.ref m0]) ⟨hx, hb, hml, hown, hts⟩ (c_X11_in l g z 0 1 H.size) (va_cwS 3 hts gX11_earnest_X11_in rfl rfl rfl (by decide +kernel) ⟨Nat.le_of_ble_eq_true rfl, Nat.le_of_ble_eq_true rfl⟩) (he_preS (wc := []) hK hP hD hS hA hE [] rfl rfl) rfl rfl hl.1 rfl (lv_room (Nat.le_of_ble_eq_true rfl)) dX11_earnest_17 ⟨(Nat.le_of_ble_eq_true rfl), (Nat.le_of_ble_eq_true rfl)⟩) hP hD hS hA [] [0, 1] rfl rfl rfl (by decide) (fun r_14 u_15 H locs h_16 hP hD hS => ?_)
      subst h_16
      have hP : va_P g.1 vwCl [(m0, .inr (10, [.int 0, .int 0, .int 0, .int (-1), .int 0, .int 0, .int 0, .int 0, .ref fd, .ref rfm, .ref rt_, .ref to_, .ref rw_, .ref wa, .int 0, .ref rk, .ref rb, .ref cn, .ref br, .ref sm, .ref as_, .ref go, .ref sh_, .int 0, .int 1, .int 1, .int 0, .int 0, .int 0, .ref ki, .ref tg, .ref of_, .ref kp, .int 0, .ref rs])), (rfm, .inl (g.2 1, 3, .inl rc))] H := hP
      have hD : va_D A [(m0, .inr (10, [.int 0, .int 0, .int 0, .int (-1), .int 0, .int 0, .int 0, .int 0, .ref fd, .ref rfm, .ref rt_, .ref to_, .ref rw_, .ref wa, .int 0, .ref rk, .ref rb, .ref cn, .ref br, .ref sm, .ref as_, .ref go, .ref sh_, .int 0, .int 1, .int 1, .int 0, .int 0, .int 0, .ref ki, .ref tg, .ref of_, .ref kp, .int 0, .ref rs])), (rfm, .inl (g.2 1, 3, .inl rc))] := hD
      refine lv_if_ne (tgt := 27) hx hb dX11_earnest_20 (by decide) (fun c_17 => ?_) (fun c_17 => ?_)
      · refine lv_iconst (v := 0) hx hb dX11_earnest_27 (by decide) ?_
        refine lv_iconst (v := 1) hx hb dX11_earnest_28 (by decide) ?_
        refine lv_iconst (v := 2) hx hb dX11_earnest_29 (by decide) ?_
        exact absurd hbad (by rintro (h9 | h9 | h9) <;> first | exact hs_1 (Or.inl h9) | exact hs_1 (Or.inr h9) | contradiction)
      · refine lv_iconst (v := 1) hx hb dX11_earnest_23 (by decide) ?_
        refine lv_goto (tgt := 28) hx hb dX11_earnest_24 (by decide) ?_
        refine lv_iconst (v := 1) hx hb dX11_earnest_28 (by decide) ?_
        refine lv_iconst (v := 2) hx hb dX11_earnest_29 (by decide) ?_
        refine he_ci (wc := [(m0, .inr (10, [.int 0, .int 0, .int 0, .int (-1), .int 0, .int 0, .int 0, .int 0, .ref fd, .ref rfm, .ref rt_, .ref to_, .ref rw_, .ref wa, .int 0, .ref rk, .ref rb, .ref cn, .ref br, .ref sm, .ref as_, .ref go, .ref sh_, .int 0, .int 1, .int 1, .int 0, .int 0, .int 0, .ref ki, .ref tg, .ref of_, .ref kp, .int 0, .ref rs])), (rfm, .inl (g.2 1, 3, .inl rc))]) (wr := []) (va_runV (As := [.int 1, .int 1, .int 2]) (rest := []) ⟨hx, hb, hml, hown, hts⟩ (c_X11_bad1 l g m0 fd rfm rt_ to_ rw_ wa rk rb cn br sm as_ go sh_ ki tg of_ kp rs 0 0 (-1) 0 0 0 0 0 0 1 1 0 0 0 0 1 2 rc (by first | assumption | decide | omega) (by first | assumption | decide | omega) H.size) (cwV 3 hts gX11_earnest_X11_bad rfl rfl rfl (by decide +kernel) ⟨Nat.le_of_ble_eq_true rfl, Nat.le_of_ble_eq_true rfl⟩) (he_preV (wc := [(m0, .inr (10, [.int 0, .int 0, .int 0, .int (-1), .int 0, .int 0, .int 0, .int 0, .ref fd, .ref rfm, .ref rt_, .ref to_, .ref rw_, .ref wa, .int 0, .ref rk, .ref rb, .ref cn, .ref br, .ref sm, .ref as_, .ref go, .ref sh_, .int 0, .int 1, .int 1, .int 0, .int 0, .int 0, .ref ki, .ref tg, .ref of_, .ref kp, .int 0, .ref rs])), (rfm, .inl (g.2 1, 3, .inl rc))]) hK hP hD hS hA hE [0, 1] rfl rfl 0 rfl rfl) rfl rfl hl.1 rfl (lv_room (Nat.le_of_ble_eq_true rfl)) dX11_earnest_30 ⟨(Nat.le_of_ble_eq_true rfl), (Nat.le_of_ble_eq_true rfl)⟩) hP hD hS hA [0, 1] [] rfl rfl rfl (by decide) (fun r_18 u_19 H locs h_20 hP hD hS => ?_)
        subst h_20
        have hP : va_P g.1 vwCl [(m0, .inr (10, [.int 1, .int 0, .int 0, .int (-1), .int 0, .int 0, .int 0, .int 0, .ref fd, .ref rfm, .ref rt_, .ref to_, .ref rw_, .ref wa, .int 0, .ref rk, .ref rb, .ref cn, .ref br, .ref sm, .ref as_, .ref go, .ref sh_, .int 0, .int 1, .int 1, .int 0, .int 0, .int 0, .ref ki, .ref tg, .ref of_, .ref kp, .int 0, .ref rs])), (rfm, .inl (g.2 1, 3, .inl (upd rc 2 (rc 2 + 1))))] H := hP
        have hD : va_D A [(m0, .inr (10, [.int 1, .int 0, .int 0, .int (-1), .int 0, .int 0, .int 0, .int 0, .ref fd, .ref rfm, .ref rt_, .ref to_, .ref rw_, .ref wa, .int 0, .ref rk, .ref rb, .ref cn, .ref br, .ref sm, .ref as_, .ref go, .ref sh_, .int 0, .int 1, .int 1, .int 0, .int 0, .int 0, .ref ki, .ref tg, .ref of_, .ref kp, .int 0, .ref rs])), (rfm, .inl (g.2 1, 3, .inl (upd rc 2 (rc 2 + 1))))] := hD
        refine lv_if_eq (tgt := 38) hx hb dX11_earnest_33 (by decide) (fun c_21 => ?_) (fun c_21 => ?_)
        · exact absurd c_21 (by decide)
        · refine lv_iconst (v := 0) hx hb dX11_earnest_36 (by decide) ?_
          have hP := hP.sub (ws' := [(m0, .inr (10, [.int 1, .int 0, .int 0, .int (-1), .int 0, .int 0, .int 0, .int 0, .ref fd, .ref rfm, .ref rt_, .ref to_, .ref rw_, .ref wa, .int 0, .ref rk, .ref rb, .ref cn, .ref br, .ref sm, .ref as_, .ref go, .ref sh_, .int 0, .int 1, .int 1, .int 0, .int 0, .int 0, .ref ki, .ref tg, .ref of_, .ref kp, .int 0, .ref rs]))]) [0] rfl
          have hD := hD.sub (ws' := [(m0, .inr (10, [.int 1, .int 0, .int 0, .int (-1), .int 0, .int 0, .int 0, .int 0, .ref fd, .ref rfm, .ref rt_, .ref to_, .ref rw_, .ref wa, .int 0, .ref rk, .ref rb, .ref cn, .ref br, .ref sm, .ref as_, .ref go, .ref sh_, .int 0, .int 1, .int 1, .int 0, .int 0, .int 0, .ref ki, .ref tg, .ref of_, .ref kp, .int 0, .ref rs]))]) [0] (by decide) rfl
          exact he_ri hQ hx hb hr hlk hP hD hS dX11_earnest_37 (Nat.le_of_ble_eq_true rfl) (Nat.le_of_ble_eq_true rfl) (()) (rfl) (rfl)
set_option maxHeartbeats 4000000 in
set_option maxRecDepth 100000 in
theorem c_X11_offers (l : Launch) (g : he_G) (m0 : Nat) (fd : Nat) (rfm : Nat) (rt_ : Nat) (to_ : Nat) (rw_ : Nat) (wa : Nat) (rk : Nat) (rb : Nat) (cn : Nat) (br : Nat) (sm : Nat) (as_ : Nat) (go : Nat) (sh_ : Nat) (ki : Nat) (tg : Nat) (of_ : Nat) (kp : Nat) (rs : Nat) (L : List Nat) (ln : Nat → Nat) (M : Nat → Nat → Int32) (r9 : Nat → Nat) (i : Nat) (j : Nat) (z : Int32) (F_r9 : ∀ i, i < 2 → r9 i ∈ L ∧ ln (r9 i) = 12 ∧ True) (hi1 : 1 ≤ i) (hi2 : i ≤ 2) (hj : j ≤ 11) (hz0 : ∀ i, i < 2 → M (r9 i) = fun _ => 0) (hok0 : ¬ he_within z 0 999 = 0) : he_I l yX11_offers wsX11_offers 1 23 0 0 g [.ref m0, .int (nI i), .int (nI j), .int z] ([(m0, .inr (10, [.int 0, .int 0, .int 0, .int (-1), .int 0, .int 0, .int 0, .int 0, .ref fd, .ref rfm, .ref rt_, .ref to_, .ref rw_, .ref wa, .int 0, .ref rk, .ref rb, .ref cn, .ref br, .ref sm, .ref as_, .ref go, .ref sh_, .int 0, .int 1, .int 1, .int 0, .int 0, .int 0, .ref ki, .ref tg, .ref of_, .ref kp, .int 0, .ref rs])), (of_, .inl (g.2 4, 2, .inr (.inr (.inr (.inr  (he_ro 2 r9))))))] ++ he_pl g L ln M) (fun (r : Int32) (u : Unit) => r = 0) (fun (u : Unit) => [(m0, .inr (10, [.int 0, .int 0, .int 0, .int (-1), .int 0, .int 0, .int 0, .int 0, .ref fd, .ref rfm, .ref rt_, .ref to_, .ref rw_, .ref wa, .int 0, .ref rk, .ref rb, .ref cn, .ref br, .ref sm, .ref as_, .ref go, .ref sh_, .int 0, .int 1, .int 1, .int 0, .int 0, .int 0, .ref ki, .ref tg, .ref of_, .ref kp, .int 0, .ref rs]))]) := by
  refine he_begin (l := l) (g := g) (y := yX11_offers) (wl := wsX11_offers) (fr := 1) (lo := 23) (mc := 0) (ms := 0) (av := [.ref m0, .int (nI i), .int (nI j), .int z]) (ws := ([(m0, .inr (10, [.int 0, .int 0, .int 0, .int (-1), .int 0, .int 0, .int 0, .int 0, .ref fd, .ref rfm, .ref rt_, .ref to_, .ref rw_, .ref wa, .int 0, .ref rk, .ref rb, .ref cn, .ref br, .ref sm, .ref as_, .ref go, .ref sh_, .int 0, .int 1, .int 1, .int 0, .int 0, .int 0, .ref ki, .ref tg, .ref of_, .ref kp, .int 0, .ref rs])), (of_, .inl (g.2 4, 2, .inr (.inr (.inr (.inr  (he_ro 2 r9))))))] ++ he_pl g L ln M)) (cc := cX11_offers) (maxL := 5) (ret := (some .int)) (fun A => va_Qi (fun (r : Int32) (u : Unit) => r = 0) (fun u t => he_post g A ((fun (u : Unit) => [(m0, .inr (10, [.int 0, .int 0, .int 0, .int (-1), .int 0, .int 0, .int 0, .int 0, .ref fd, .ref rfm, .ref rt_, .ref to_, .ref rw_, .ref wa, .int 0, .ref rk, .ref rb, .ref cn, .ref br, .ref sm, .ref as_, .ref go, .ref sh_, .int 0, .int 1, .int 1, .int 0, .int 0, .int 0, .ref ki, .ref tg, .ref of_, .ref kp, .int 0, .ref rs]))]) u) t) A) (by decide) rfl (Nat.le_of_ble_eq_true rfl) ?_
  intro p e s m args below meth c A ls H locs Q hQ hB
  obtain ⟨hx, hb, hr, hml, hown, hts, hlk, hin, hP, hK, hD, hS, hA, hE, hl⟩ := hB
  have hl : lv_has ls 5 [(0, .ref m0), (1, .int (nI i)), (2, .int (nI j)), (3, .int z)] := hl
  have f85 := hts (.fieldLink RX11 85 "HiredEnemyModel" "thrown" "I") (by decide +kernel)
  have inX11 : ∀ w ∈ wsX110, w ∈ wsX11_offers := by decide +kernel
  have f70 := hts (.fieldLink RX11 70 "HiredEnemyModel" "offered" "[[I") (by decide +kernel)
  refine lv_aload_n hx hb dX11_offers_0 rfl (lv_at hl 0 rfl) ?_
  refine lv_iconst (v := 0) hx hb dX11_offers_1 (by decide) ?_
  refine va_put (v := .int 0) (ty := .int) (T := TX11) (N := 35) hx hb hts inX11 tyX11 tyX11_ok nmX11 hown hK hP hD hS 0 rfl rfl 0 (by decide) f85 (fun _ h9 => h9) rfl (by decide +kernel) rfl rfl (Nat.le_of_ble_eq_true rfl) dX11_offers_2 (fun H locs hP hD hS => ?_)
  have hP : va_P g.1 vwCl ([(m0, .inr (10, [.int 0, .int 0, .int 0, .int (-1), .int 0, .int 0, .int 0, .int 0, .ref fd, .ref rfm, .ref rt_, .ref to_, .ref rw_, .ref wa, .int 0, .ref rk, .ref rb, .ref cn, .ref br, .ref sm, .ref as_, .ref go, .ref sh_, .int 0, .int 1, .int 1, .int 0, .int 0, .int 0, .ref ki, .ref tg, .ref of_, .ref kp, .int 0, .ref rs])), (of_, .inl (g.2 4, 2, .inr (.inr (.inr (.inr  (he_ro 2 r9))))))] ++ he_pl g L ln M) H := hP
  have hD : va_D A ([(m0, .inr (10, [.int 0, .int 0, .int 0, .int (-1), .int 0, .int 0, .int 0, .int 0, .ref fd, .ref rfm, .ref rt_, .ref to_, .ref rw_, .ref wa, .int 0, .ref rk, .ref rb, .ref cn, .ref br, .ref sm, .ref as_, .ref go, .ref sh_, .int 0, .int 1, .int 1, .int 0, .int 0, .int 0, .ref ki, .ref tg, .ref of_, .ref kp, .int 0, .ref rs])), (of_, .inl (g.2 4, 2, .inr (.inr (.inr (.inr  (he_ro 2 r9))))))] ++ he_pl g L ln M) := hD
  refine lv_aload_n hx hb dX11_offers_5 rfl (lv_at hl 0 rfl) ?_
  refine lv_iload_n hx hb dX11_offers_6 rfl (lv_at hl 1 rfl) ?_
  refine lv_iconst (v := 1) hx hb dX11_offers_7 (by decide) ?_
  refine lv_iconst (v := 2) hx hb dX11_offers_8 (by decide) ?_
  refine he_ci (wc := []) (wr := ([(m0, .inr (10, [.int 0, .int 0, .int 0, .int (-1), .int 0, .int 0, .int 0, .int 0, .ref fd, .ref rfm, .ref rt_, .ref to_, .ref rw_, .ref wa, .int 0, .ref rk, .ref rb, .ref cn, .ref br, .ref sm, .ref as_, .ref go, .ref sh_, .int 0, .int 1, .int 1, .int 0, .int 0, .int 0, .ref ki, .ref tg, .ref of_, .ref kp, .int 0, .ref rs])), (of_, .inl (g.2 4, 2, .inr (.inr (.inr (.inr  (he_ro 2 r9))))))] ++ (he_pl g L ln M))) (va_runS (As := [.int (nI i), .int 1, .int 2]) (rest := [.ref m0]) ⟨hx, hb, hml, hown, hts⟩ (c_X11_in l g (nI i) 1 2 H.size) (va_cwS 3 hts gX11_offers_X11_in rfl rfl rfl (by decide +kernel) ⟨Nat.le_of_ble_eq_true rfl, Nat.le_of_ble_eq_true rfl⟩) (he_preS (wc := []) hK hP hD hS hA hE [] rfl rfl) rfl rfl hl.1 rfl (lv_room (Nat.le_of_ble_eq_true rfl)) dX11_offers_9 ⟨(Nat.le_of_ble_eq_true rfl), (Nat.le_of_ble_eq_true rfl)⟩) hP hD hS hA [] (he_is [0, 1] [(m0, .inr (10, [.int 0, .int 0, .int 0, .int (-1), .int 0, .int 0, .int 0, .int 0, .ref fd, .ref rfm, .ref rt_, .ref to_, .ref rw_, .ref wa, .int 0, .ref rk, .ref rb, .ref cn, .ref br, .ref sm, .ref as_, .ref go, .ref sh_, .int 0, .int 1, .int 1, .int 0, .int 0, .int 0, .ref ki, .ref tg, .ref of_, .ref kp, .int 0, .ref rs])), (of_, .inl (g.2 4, 2, .inr (.inr (.inr (.inr  (he_ro 2 r9))))))] (he_pl g L ln M)) rfl (he_ixP rfl) (he_ndP rfl rfl) (he_disN (by decide) rfl) (fun r_1 u_2 H locs h_3 hP hD hS => ?_)
  have hP := va_P.swap hP
  have hD := va_D.swap hD
  subst h_3
  have hP : va_P g.1 vwCl ([(m0, .inr (10, [.int 0, .int 0, .int 0, .int (-1), .int 0, .int 0, .int 0, .int 0, .ref fd, .ref rfm, .ref rt_, .ref to_, .ref rw_, .ref wa, .int 0, .ref rk, .ref rb, .ref cn, .ref br, .ref sm, .ref as_, .ref go, .ref sh_, .int 0, .int 1, .int 1, .int 0, .int 0, .int 0, .ref ki, .ref tg, .ref of_, .ref kp, .int 0, .ref rs])), (of_, .inl (g.2 4, 2, .inr (.inr (.inr (.inr  (he_ro 2 r9))))))] ++ he_pl g L ln M) H := hP
  have hD : va_D A ([(m0, .inr (10, [.int 0, .int 0, .int 0, .int (-1), .int 0, .int 0, .int 0, .int 0, .ref fd, .ref rfm, .ref rt_, .ref to_, .ref rw_, .ref wa, .int 0, .ref rk, .ref rb, .ref cn, .ref br, .ref sm, .ref as_, .ref go, .ref sh_, .int 0, .int 1, .int 1, .int 0, .int 0, .int 0, .ref ki, .ref tg, .ref of_, .ref kp, .int 0, .ref rs])), (of_, .inl (g.2 4, 2, .inr (.inr (.inr (.inr  (he_ro 2 r9))))))] ++ he_pl g L ln M) := hD
  refine he_top (1) (he_within_in (a0 := 1) (B := 2) rfl rfl (by omega) (by omega) (by decide)) ?_
  refine lv_if_eq (tgt := 36) hx hb dX11_offers_12 (by decide) (fun c_4 => ?_) (fun c_4 => ?_)
  · exact absurd c_4 (by decide)
  · refine lv_iload_n hx hb dX11_offers_15 rfl (lv_at hl 2 rfl) ?_
    refine lv_iconst (v := 0) hx hb dX11_offers_16 (by decide) ?_
    refine lv_bipush (v := 11) hx hb dX11_offers_17 (by decide) ?_
    refine he_ci (wc := []) (wr := ([(m0, .inr (10, [.int 0, .int 0, .int 0, .int (-1), .int 0, .int 0, .int 0, .int 0, .ref fd, .ref rfm, .ref rt_, .ref to_, .ref rw_, .ref wa, .int 0, .ref rk, .ref rb, .ref cn, .ref br, .ref sm, .ref as_, .ref go, .ref sh_, .int 0, .int 1, .int 1, .int 0, .int 0, .int 0, .ref ki, .ref tg, .ref of_, .ref kp, .int 0, .ref rs])), (of_, .inl (g.2 4, 2, .inr (.inr (.inr (.inr  (he_ro 2 r9))))))] ++ (he_pl g L ln M))) (va_runS (As := [.int (nI j), .int 0, .int 11]) (rest := [.ref m0]) ⟨hx, hb, hml, hown, hts⟩ (c_X11_in l g (nI j) 0 11 H.size) (va_cwS 3 hts gX11_offers_X11_in rfl rfl rfl (by decide +kernel) ⟨Nat.le_of_ble_eq_true rfl, Nat.le_of_ble_eq_true rfl⟩) (he_preS (wc := []) hK hP hD hS hA hE [] rfl rfl) rfl rfl hl.1 rfl (lv_room (Nat.le_of_ble_eq_true rfl)) dX11_offers_19 ⟨(Nat.le_of_ble_eq_true rfl), (Nat.le_of_ble_eq_true rfl)⟩) hP hD hS hA [] (he_is [0, 1] [(m0, .inr (10, [.int 0, .int 0, .int 0, .int (-1), .int 0, .int 0, .int 0, .int 0, .ref fd, .ref rfm, .ref rt_, .ref to_, .ref rw_, .ref wa, .int 0, .ref rk, .ref rb, .ref cn, .ref br, .ref sm, .ref as_, .ref go, .ref sh_, .int 0, .int 1, .int 1, .int 0, .int 0, .int 0, .ref ki, .ref tg, .ref of_, .ref kp, .int 0, .ref rs])), (of_, .inl (g.2 4, 2, .inr (.inr (.inr (.inr  (he_ro 2 r9))))))] (he_pl g L ln M)) rfl (he_ixP rfl) (he_ndP rfl rfl) (he_disN (by decide) rfl) (fun r_5 u_6 H locs h_7 hP hD hS => ?_)
    have hP := va_P.swap hP
    have hD := va_D.swap hD
    subst h_7
    have hP : va_P g.1 vwCl ([(m0, .inr (10, [.int 0, .int 0, .int 0, .int (-1), .int 0, .int 0, .int 0, .int 0, .ref fd, .ref rfm, .ref rt_, .ref to_, .ref rw_, .ref wa, .int 0, .ref rk, .ref rb, .ref cn, .ref br, .ref sm, .ref as_, .ref go, .ref sh_, .int 0, .int 1, .int 1, .int 0, .int 0, .int 0, .ref ki, .ref tg, .ref of_, .ref kp, .int 0, .ref rs])), (of_, .inl (g.2 4, 2, .inr (.inr (.inr (.inr  (he_ro 2 r9))))))] ++ he_pl g L ln M) H := hP
    have hD : va_D A ([(m0, .inr (10, [.int 0, .int 0, .int 0, .int (-1), .int 0, .int 0, .int 0, .int 0, .ref fd, .ref rfm, .ref rt_, .ref to_, .ref rw_, .ref wa, .int 0, .ref rk, .ref rb, .ref cn, .ref br, .ref sm, .ref as_, .ref go, .ref sh_, .int 0, .int 1, .int 1, .int 0, .int 0, .int 0, .ref ki, .ref tg, .ref of_, .ref kp, .int 0, .ref rs])), (of_, .inl (g.2 4, 2, .inr (.inr (.inr (.inr  (he_ro 2 r9))))))] ++ he_pl g L ln M) := hD
    refine he_top (1) (he_within_in (a0 := 0) (B := 11) rfl rfl (by omega) (by omega) (by decide)) ?_
    refine lv_if_eq (tgt := 36) hx hb dX11_offers_22 (by decide) (fun c_8 => ?_) (fun c_8 => ?_)
    · exact absurd c_8 (by decide)
    · refine lv_iload_n hx hb dX11_offers_25 rfl (lv_at hl 3 rfl) ?_
      refine lv_iconst (v := 0) hx hb dX11_offers_26 (by decide) ?_
      refine lv_sipush (v := 999) hx hb dX11_offers_27 (by decide) ?_
      refine he_ci (wc := []) (wr := ([(m0, .inr (10, [.int 0, .int 0, .int 0, .int (-1), .int 0, .int 0, .int 0, .int 0, .ref fd, .ref rfm, .ref rt_, .ref to_, .ref rw_, .ref wa, .int 0, .ref rk, .ref rb, .ref cn, .ref br, .ref sm, .ref as_, .ref go, .ref sh_, .int 0, .int 1, .int 1, .int 0, .int 0, .int 0, .ref ki, .ref tg, .ref of_, .ref kp, .int 0, .ref rs])), (of_, .inl (g.2 4, 2, .inr (.inr (.inr (.inr  (he_ro 2 r9))))))] ++ (he_pl g L ln M))) (va_runS (As := [.int z, .int 0, .int 999]) (rest := [.ref m0]) ⟨hx, hb, hml, hown, hts⟩ (c_X11_in l g z 0 999 H.size) (va_cwS 3 hts gX11_offers_X11_in rfl rfl rfl (by decide +kernel) ⟨Nat.le_of_ble_eq_true rfl, Nat.le_of_ble_eq_true rfl⟩) (he_preS (wc := []) hK hP hD hS hA hE [] rfl rfl) rfl rfl hl.1 rfl (lv_room (Nat.le_of_ble_eq_true rfl)) dX11_offers_30 ⟨(Nat.le_of_ble_eq_true rfl), (Nat.le_of_ble_eq_true rfl)⟩) hP hD hS hA [] (he_is [0, 1] [(m0, .inr (10, [.int 0, .int 0, .int 0, .int (-1), .int 0, .int 0, .int 0, .int 0, .ref fd, .ref rfm, .ref rt_, .ref to_, .ref rw_, .ref wa, .int 0, .ref rk, .ref rb, .ref cn, .ref br, .ref sm, .ref as_, .ref go, .ref sh_, .int 0, .int 1, .int 1, .int 0, .int 0, .int 0, .ref ki, .ref tg, .ref of_, .ref kp, .int 0, .ref rs])), (of_, .inl (g.2 4, 2, .inr (.inr (.inr (.inr  (he_ro 2 r9))))))] (he_pl g L ln M)) rfl (he_ixP rfl) (he_ndP rfl rfl) (he_disN (by decide) rfl) (fun r_9 u_10 H locs h_11 hP hD hS => ?_)
      have hP := va_P.swap hP
      have hD := va_D.swap hD
      subst h_11
      have hP : va_P g.1 vwCl ([(m0, .inr (10, [.int 0, .int 0, .int 0, .int (-1), .int 0, .int 0, .int 0, .int 0, .ref fd, .ref rfm, .ref rt_, .ref to_, .ref rw_, .ref wa, .int 0, .ref rk, .ref rb, .ref cn, .ref br, .ref sm, .ref as_, .ref go, .ref sh_, .int 0, .int 1, .int 1, .int 0, .int 0, .int 0, .ref ki, .ref tg, .ref of_, .ref kp, .int 0, .ref rs])), (of_, .inl (g.2 4, 2, .inr (.inr (.inr (.inr  (he_ro 2 r9))))))] ++ he_pl g L ln M) H := hP
      have hD : va_D A ([(m0, .inr (10, [.int 0, .int 0, .int 0, .int (-1), .int 0, .int 0, .int 0, .int 0, .ref fd, .ref rfm, .ref rt_, .ref to_, .ref rw_, .ref wa, .int 0, .ref rk, .ref rb, .ref cn, .ref br, .ref sm, .ref as_, .ref go, .ref sh_, .int 0, .int 1, .int 1, .int 0, .int 0, .int 0, .ref ki, .ref tg, .ref of_, .ref kp, .int 0, .ref rs])), (of_, .inl (g.2 4, 2, .inr (.inr (.inr (.inr  (he_ro 2 r9))))))] ++ he_pl g L ln M) := hD
      refine he_top (1) (he_within_1 hok0) ?_
      refine lv_if_ne (tgt := 40) hx hb dX11_offers_33 (by decide) (fun c_12 => ?_) (fun c_12 => ?_)
      · refine lv_iconst (v := 0) hx hb dX11_offers_40 (by decide) ?_
        refine lv_iconst (v := 1) hx hb dX11_offers_41 (by decide) ?_
        refine lv_iconst (v := 2) hx hb dX11_offers_42 (by decide) ?_
        refine he_ci (wc := [(m0, .inr (10, [.int 0, .int 0, .int 0, .int (-1), .int 0, .int 0, .int 0, .int 0, .ref fd, .ref rfm, .ref rt_, .ref to_, .ref rw_, .ref wa, .int 0, .ref rk, .ref rb, .ref cn, .ref br, .ref sm, .ref as_, .ref go, .ref sh_, .int 0, .int 1, .int 1, .int 0, .int 0, .int 0, .ref ki, .ref tg, .ref of_, .ref kp, .int 0, .ref rs]))]) (wr := ([(of_, .inl (g.2 4, 2, .inr (.inr (.inr (.inr  (he_ro 2 r9))))))] ++ (he_pl g L ln M))) (va_runV (As := [.int 0, .int 1, .int 2]) (rest := []) ⟨hx, hb, hml, hown, hts⟩ (c_X11_bad0 l g m0 fd rfm rt_ to_ rw_ wa rk rb cn br sm as_ go sh_ ki tg of_ kp rs 0 0 (-1) 0 0 0 0 0 0 1 1 0 0 0 0 1 2 H.size) (cwV 3 hts gX11_offers_X11_bad rfl rfl rfl (by decide +kernel) ⟨Nat.le_of_ble_eq_true rfl, Nat.le_of_ble_eq_true rfl⟩) (he_preV (wc := [(m0, .inr (10, [.int 0, .int 0, .int 0, .int (-1), .int 0, .int 0, .int 0, .int 0, .ref fd, .ref rfm, .ref rt_, .ref to_, .ref rw_, .ref wa, .int 0, .ref rk, .ref rb, .ref cn, .ref br, .ref sm, .ref as_, .ref go, .ref sh_, .int 0, .int 1, .int 1, .int 0, .int 0, .int 0, .ref ki, .ref tg, .ref of_, .ref kp, .int 0, .ref rs]))]) hK hP hD hS hA hE [0] rfl rfl 0 rfl rfl) rfl rfl hl.1 rfl (lv_room (Nat.le_of_ble_eq_true rfl)) dX11_offers_43 ⟨(Nat.le_of_ble_eq_true rfl), (Nat.le_of_ble_eq_true rfl)⟩) hP hD hS hA [0] (he_is [1] [(m0, .inr (10, [.int 0, .int 0, .int 0, .int (-1), .int 0, .int 0, .int 0, .int 0, .ref fd, .ref rfm, .ref rt_, .ref to_, .ref rw_, .ref wa, .int 0, .ref rk, .ref rb, .ref cn, .ref br, .ref sm, .ref as_, .ref go, .ref sh_, .int 0, .int 1, .int 1, .int 0, .int 0, .int 0, .ref ki, .ref tg, .ref of_, .ref kp, .int 0, .ref rs])), (of_, .inl (g.2 4, 2, .inr (.inr (.inr (.inr  (he_ro 2 r9))))))] (he_pl g L ln M)) rfl (he_ixP rfl) (he_ndP rfl rfl) (he_disN (by decide) rfl) (fun r_13 u_14 H locs h_15 hP hD hS => ?_)
        have hP := va_P.swap hP
        have hD := va_D.swap hD
        subst h_15
        have hP : va_P g.1 vwCl ([(of_, .inl (g.2 4, 2, .inr (.inr (.inr (.inr  (he_ro 2 r9)))))), (m0, .inr (10, [.int 0, .int 0, .int 0, .int (-1), .int 0, .int 0, .int 0, .int 0, .ref fd, .ref rfm, .ref rt_, .ref to_, .ref rw_, .ref wa, .int 0, .ref rk, .ref rb, .ref cn, .ref br, .ref sm, .ref as_, .ref go, .ref sh_, .int 0, .int 1, .int 1, .int 0, .int 0, .int 0, .ref ki, .ref tg, .ref of_, .ref kp, .int 0, .ref rs]))] ++ he_pl g L ln M) H := hP
        have hD : va_D A ([(of_, .inl (g.2 4, 2, .inr (.inr (.inr (.inr  (he_ro 2 r9)))))), (m0, .inr (10, [.int 0, .int 0, .int 0, .int (-1), .int 0, .int 0, .int 0, .int 0, .ref fd, .ref rfm, .ref rt_, .ref to_, .ref rw_, .ref wa, .int 0, .ref rk, .ref rb, .ref cn, .ref br, .ref sm, .ref as_, .ref go, .ref sh_, .int 0, .int 1, .int 1, .int 0, .int 0, .int 0, .ref ki, .ref tg, .ref of_, .ref kp, .int 0, .ref rs]))] ++ he_pl g L ln M) := hD
        refine lv_if_eq (tgt := 51) hx hb dX11_offers_46 (by decide) (fun c_16 => ?_) (fun c_16 => ?_)
        · refine lv_aload_n hx hb dX11_offers_51 rfl (lv_at hl 0 rfl) ?_
          refine va_get (v := .ref of_) (T := TX11) (N := 35) hx hb hts inX11 hown hK hP 1 rfl rfl 31 (by decide) f70 (fun _ h9 => h9) rfl dX11_offers_52 ?_
          refine lv_iload_n hx hb dX11_offers_55 rfl (lv_at hl 1 rfl) ?_
          refine lv_iconst (v := 1) hx hb dX11_offers_56 (by decide) ?_
          refine lv_isub hx hb dX11_offers_57 ?_
          refine he_top (nI (i - 1)) (pk_sub (b := 1) hi1) ?_
          refine he_aldm hx hb hK hP 0 rfl (i - 1) rfl (by first | assumption | decide | omega) (by decide) dX11_offers_58 ?_
          refine lv_iload_n hx hb dX11_offers_59 rfl (lv_at hl 2 rfl) ?_
          refine he_pald hx hb hK hP (F_r9 (i - 1) (by first | assumption | decide | omega)).1 (j) rfl (by rw [(F_r9 (i - 1) (by first | assumption | decide | omega)).2.1]; exact (by first | assumption | decide | omega)) (by rw [(F_r9 (i - 1) (by first | assumption | decide | omega)).2.1]; decide) (0) (by rw [hz0 (i - 1) (by omega)]) dX11_offers_60 ?_
          refine lv_istore (lv' := [(4, .int 0), (0, .ref m0), (1, .int (nI i)), (2, .int (nI j)), (3, .int z)]) hx hb dX11_offers_61 hl (by decide) rfl (fun ls hl => ?_)
          refine lv_aload_n hx hb dX11_offers_63 rfl (lv_at hl 1 rfl) ?_
          refine va_get (v := .ref of_) (T := TX11) (N := 35) hx hb hts inX11 hown hK hP 1 rfl rfl 31 (by decide) f70 (fun _ h9 => h9) rfl dX11_offers_64 ?_
          refine lv_iload_n hx hb dX11_offers_67 rfl (lv_at hl 2 rfl) ?_
          refine lv_iconst (v := 1) hx hb dX11_offers_68 (by decide) ?_
          refine lv_isub hx hb dX11_offers_69 ?_
          refine he_top (nI (i - 1)) (pk_sub (b := 1) hi1) ?_
          refine he_aldm hx hb hK hP 0 rfl (i - 1) rfl (by first | assumption | decide | omega) (by decide) dX11_offers_70 ?_
          refine lv_iload_n hx hb dX11_offers_71 rfl (lv_at hl 3 rfl) ?_
          refine lv_iload_n hx hb dX11_offers_72 rfl (lv_at hl 4 rfl) ?_
          refine he_past hx hb hK hP hD hS (F_r9 (i - 1) (by first | assumption | decide | omega)).1 (j) rfl (by rw [(F_r9 (i - 1) (by first | assumption | decide | omega)).2.1]; exact (by first | assumption | decide | omega)) (by rw [(F_r9 (i - 1) (by first | assumption | decide | omega)).2.1]; decide) dX11_offers_73 (fun H locs hP hD hS => ?_)
          have hP : va_P g.1 vwCl ([(of_, .inl (g.2 4, 2, .inr (.inr (.inr (.inr  (he_ro 2 r9)))))), (m0, .inr (10, [.int 0, .int 0, .int 0, .int (-1), .int 0, .int 0, .int 0, .int 0, .ref fd, .ref rfm, .ref rt_, .ref to_, .ref rw_, .ref wa, .int 0, .ref rk, .ref rb, .ref cn, .ref br, .ref sm, .ref as_, .ref go, .ref sh_, .int 0, .int 1, .int 1, .int 0, .int 0, .int 0, .ref ki, .ref tg, .ref of_, .ref kp, .int 0, .ref rs]))] ++ he_pl g L ln (va_up M (r9 (i - 1)) (upd (M (r9 (i - 1))) j z))) H := hP
          have hD : va_D A ([(of_, .inl (g.2 4, 2, .inr (.inr (.inr (.inr  (he_ro 2 r9)))))), (m0, .inr (10, [.int 0, .int 0, .int 0, .int (-1), .int 0, .int 0, .int 0, .int 0, .ref fd, .ref rfm, .ref rt_, .ref to_, .ref rw_, .ref wa, .int 0, .ref rk, .ref rb, .ref cn, .ref br, .ref sm, .ref as_, .ref go, .ref sh_, .int 0, .int 1, .int 1, .int 0, .int 0, .int 0, .ref ki, .ref tg, .ref of_, .ref kp, .int 0, .ref rs]))] ++ he_pl g L ln (va_up M (r9 (i - 1)) (upd (M (r9 (i - 1))) j z))) := hD
          refine lv_iload hx hb dX11_offers_74 (lv_at hl 0 rfl) ?_
          have hP := hP.sub (ws' := [(m0, .inr (10, [.int 0, .int 0, .int 0, .int (-1), .int 0, .int 0, .int 0, .int 0, .ref fd, .ref rfm, .ref rt_, .ref to_, .ref rw_, .ref wa, .int 0, .ref rk, .ref rb, .ref cn, .ref br, .ref sm, .ref as_, .ref go, .ref sh_, .int 0, .int 1, .int 1, .int 0, .int 0, .int 0, .ref ki, .ref tg, .ref of_, .ref kp, .int 0, .ref rs]))]) [1] rfl
          have hD := hD.sub (ws' := [(m0, .inr (10, [.int 0, .int 0, .int 0, .int (-1), .int 0, .int 0, .int 0, .int 0, .ref fd, .ref rfm, .ref rt_, .ref to_, .ref rw_, .ref wa, .int 0, .ref rk, .ref rb, .ref cn, .ref br, .ref sm, .ref as_, .ref go, .ref sh_, .int 0, .int 1, .int 1, .int 0, .int 0, .int 0, .ref ki, .ref tg, .ref of_, .ref kp, .int 0, .ref rs]))]) [1] (by decide) rfl
          exact he_ri hQ hx hb hr hlk hP hD hS dX11_offers_76 (Nat.le_of_ble_eq_true rfl) (Nat.le_of_ble_eq_true rfl) (()) (rfl) (rfl)
        · exact absurd (by decide) c_16
      · exact absurd c_12 (by decide)
set_option maxHeartbeats 4000000 in
set_option maxRecDepth 100000 in
theorem c_X11_offersX (l : Launch) (g : he_G) (m0 : Nat) (fd : Nat) (rfm : Nat) (rt_ : Nat) (to_ : Nat) (rw_ : Nat) (wa : Nat) (rk : Nat) (rb : Nat) (cn : Nat) (br : Nat) (sm : Nat) (as_ : Nat) (go : Nat) (sh_ : Nat) (ki : Nat) (tg : Nat) (of_ : Nat) (kp : Nat) (rs : Nat) (rc : Nat → Int32) (x : Int32) (y : Int32) (z : Int32) (hbad : he_within x 1 2 = 0 ∨ he_within y 0 11 = 0 ∨ he_within z 0 999 = 0) : he_I l yX11_offers wsX11_offers 1 23 0 0 g [.ref m0, .int x, .int y, .int z] [(m0, .inr (10, [.int 0, .int 0, .int 0, .int (-1), .int 0, .int 0, .int 0, .int 0, .ref fd, .ref rfm, .ref rt_, .ref to_, .ref rw_, .ref wa, .int 0, .ref rk, .ref rb, .ref cn, .ref br, .ref sm, .ref as_, .ref go, .ref sh_, .int 0, .int 1, .int 1, .int 0, .int 0, .int 0, .ref ki, .ref tg, .ref of_, .ref kp, .int 0, .ref rs])), (rfm, .inl (g.2 1, 3, .inl rc))] (fun (r : Int32) (u : Unit) => r = 0) (fun (u : Unit) => [(m0, .inr (10, [.int 1, .int 0, .int 0, .int (-1), .int 0, .int 0, .int 0, .int 0, .ref fd, .ref rfm, .ref rt_, .ref to_, .ref rw_, .ref wa, .int 0, .ref rk, .ref rb, .ref cn, .ref br, .ref sm, .ref as_, .ref go, .ref sh_, .int 0, .int 1, .int 1, .int 0, .int 0, .int 0, .ref ki, .ref tg, .ref of_, .ref kp, .int 0, .ref rs]))]) := by
  refine he_begin (l := l) (g := g) (y := yX11_offers) (wl := wsX11_offers) (fr := 1) (lo := 23) (mc := 0) (ms := 0) (av := [.ref m0, .int x, .int y, .int z]) (ws := [(m0, .inr (10, [.int 0, .int 0, .int 0, .int (-1), .int 0, .int 0, .int 0, .int 0, .ref fd, .ref rfm, .ref rt_, .ref to_, .ref rw_, .ref wa, .int 0, .ref rk, .ref rb, .ref cn, .ref br, .ref sm, .ref as_, .ref go, .ref sh_, .int 0, .int 1, .int 1, .int 0, .int 0, .int 0, .ref ki, .ref tg, .ref of_, .ref kp, .int 0, .ref rs])), (rfm, .inl (g.2 1, 3, .inl rc))]) (cc := cX11_offers) (maxL := 5) (ret := (some .int)) (fun A => va_Qi (fun (r : Int32) (u : Unit) => r = 0) (fun u t => he_post g A ((fun (u : Unit) => [(m0, .inr (10, [.int 1, .int 0, .int 0, .int (-1), .int 0, .int 0, .int 0, .int 0, .ref fd, .ref rfm, .ref rt_, .ref to_, .ref rw_, .ref wa, .int 0, .ref rk, .ref rb, .ref cn, .ref br, .ref sm, .ref as_, .ref go, .ref sh_, .int 0, .int 1, .int 1, .int 0, .int 0, .int 0, .ref ki, .ref tg, .ref of_, .ref kp, .int 0, .ref rs]))]) u) t) A) (by decide) rfl (Nat.le_of_ble_eq_true rfl) ?_
  intro p e s m args below meth c A ls H locs Q hQ hB
  obtain ⟨hx, hb, hr, hml, hown, hts, hlk, hin, hP, hK, hD, hS, hA, hE, hl⟩ := hB
  have hl : lv_has ls 5 [(0, .ref m0), (1, .int x), (2, .int y), (3, .int z)] := hl
  have f85 := hts (.fieldLink RX11 85 "HiredEnemyModel" "thrown" "I") (by decide +kernel)
  have inX11 : ∀ w ∈ wsX110, w ∈ wsX11_offers := by decide +kernel
  refine lv_aload_n hx hb dX11_offers_0 rfl (lv_at hl 0 rfl) ?_
  refine lv_iconst (v := 0) hx hb dX11_offers_1 (by decide) ?_
  refine va_put (v := .int 0) (ty := .int) (T := TX11) (N := 35) hx hb hts inX11 tyX11 tyX11_ok nmX11 hown hK hP hD hS 0 rfl rfl 0 (by decide) f85 (fun _ h9 => h9) rfl (by decide +kernel) rfl rfl (Nat.le_of_ble_eq_true rfl) dX11_offers_2 (fun H locs hP hD hS => ?_)
  have hP : va_P g.1 vwCl [(m0, .inr (10, [.int 0, .int 0, .int 0, .int (-1), .int 0, .int 0, .int 0, .int 0, .ref fd, .ref rfm, .ref rt_, .ref to_, .ref rw_, .ref wa, .int 0, .ref rk, .ref rb, .ref cn, .ref br, .ref sm, .ref as_, .ref go, .ref sh_, .int 0, .int 1, .int 1, .int 0, .int 0, .int 0, .ref ki, .ref tg, .ref of_, .ref kp, .int 0, .ref rs])), (rfm, .inl (g.2 1, 3, .inl rc))] H := hP
  have hD : va_D A [(m0, .inr (10, [.int 0, .int 0, .int 0, .int (-1), .int 0, .int 0, .int 0, .int 0, .ref fd, .ref rfm, .ref rt_, .ref to_, .ref rw_, .ref wa, .int 0, .ref rk, .ref rb, .ref cn, .ref br, .ref sm, .ref as_, .ref go, .ref sh_, .int 0, .int 1, .int 1, .int 0, .int 0, .int 0, .ref ki, .ref tg, .ref of_, .ref kp, .int 0, .ref rs])), (rfm, .inl (g.2 1, 3, .inl rc))] := hD
  refine lv_aload_n hx hb dX11_offers_5 rfl (lv_at hl 0 rfl) ?_
  refine lv_iload_n hx hb dX11_offers_6 rfl (lv_at hl 1 rfl) ?_
  refine lv_iconst (v := 1) hx hb dX11_offers_7 (by decide) ?_
  refine lv_iconst (v := 2) hx hb dX11_offers_8 (by decide) ?_
  refine he_ci (wc := []) (wr := [(m0, .inr (10, [.int 0, .int 0, .int 0, .int (-1), .int 0, .int 0, .int 0, .int 0, .ref fd, .ref rfm, .ref rt_, .ref to_, .ref rw_, .ref wa, .int 0, .ref rk, .ref rb, .ref cn, .ref br, .ref sm, .ref as_, .ref go, .ref sh_, .int 0, .int 1, .int 1, .int 0, .int 0, .int 0, .ref ki, .ref tg, .ref of_, .ref kp, .int 0, .ref rs])), (rfm, .inl (g.2 1, 3, .inl rc))]) (va_runS (As := [.int x, .int 1, .int 2]) (rest := [.ref m0]) ⟨hx, hb, hml, hown, hts⟩ (c_X11_in l g x 1 2 H.size) (va_cwS 3 hts gX11_offers_X11_in rfl rfl rfl (by decide +kernel) ⟨Nat.le_of_ble_eq_true rfl, Nat.le_of_ble_eq_true rfl⟩) (he_preS (wc := []) hK hP hD hS hA hE [] rfl rfl) rfl rfl hl.1 rfl (lv_room (Nat.le_of_ble_eq_true rfl)) dX11_offers_9 ⟨(Nat.le_of_ble_eq_true rfl), (Nat.le_of_ble_eq_true rfl)⟩) hP hD hS hA [] [0, 1] rfl rfl rfl (by decide) (fun r_1 u_2 H locs h_3 hP hD hS => ?_)
  subst h_3
  have hP : va_P g.1 vwCl [(m0, .inr (10, [.int 0, .int 0, .int 0, .int (-1), .int 0, .int 0, .int 0, .int 0, .ref fd, .ref rfm, .ref rt_, .ref to_, .ref rw_, .ref wa, .int 0, .ref rk, .ref rb, .ref cn, .ref br, .ref sm, .ref as_, .ref go, .ref sh_, .int 0, .int 1, .int 1, .int 0, .int 0, .int 0, .ref ki, .ref tg, .ref of_, .ref kp, .int 0, .ref rs])), (rfm, .inl (g.2 1, 3, .inl rc))] H := hP
  have hD : va_D A [(m0, .inr (10, [.int 0, .int 0, .int 0, .int (-1), .int 0, .int 0, .int 0, .int 0, .ref fd, .ref rfm, .ref rt_, .ref to_, .ref rw_, .ref wa, .int 0, .ref rk, .ref rb, .ref cn, .ref br, .ref sm, .ref as_, .ref go, .ref sh_, .int 0, .int 1, .int 1, .int 0, .int 0, .int 0, .ref ki, .ref tg, .ref of_, .ref kp, .int 0, .ref rs])), (rfm, .inl (g.2 1, 3, .inl rc))] := hD
  refine lv_if_eq (tgt := 36) hx hb dX11_offers_12 (by decide) (fun c_4 => ?_) (fun c_4 => ?_)
  · refine lv_iconst (v := 1) hx hb dX11_offers_36 (by decide) ?_
    refine lv_goto (tgt := 41) hx hb dX11_offers_37 (by decide) ?_
    refine lv_iconst (v := 1) hx hb dX11_offers_41 (by decide) ?_
    refine lv_iconst (v := 2) hx hb dX11_offers_42 (by decide) ?_
    refine he_ci (wc := [(m0, .inr (10, [.int 0, .int 0, .int 0, .int (-1), .int 0, .int 0, .int 0, .int 0, .ref fd, .ref rfm, .ref rt_, .ref to_, .ref rw_, .ref wa, .int 0, .ref rk, .ref rb, .ref cn, .ref br, .ref sm, .ref as_, .ref go, .ref sh_, .int 0, .int 1, .int 1, .int 0, .int 0, .int 0, .ref ki, .ref tg, .ref of_, .ref kp, .int 0, .ref rs])), (rfm, .inl (g.2 1, 3, .inl rc))]) (wr := []) (va_runV (As := [.int 1, .int 1, .int 2]) (rest := []) ⟨hx, hb, hml, hown, hts⟩ (c_X11_bad1 l g m0 fd rfm rt_ to_ rw_ wa rk rb cn br sm as_ go sh_ ki tg of_ kp rs 0 0 (-1) 0 0 0 0 0 0 1 1 0 0 0 0 1 2 rc (by first | assumption | decide | omega) (by first | assumption | decide | omega) H.size) (cwV 3 hts gX11_offers_X11_bad rfl rfl rfl (by decide +kernel) ⟨Nat.le_of_ble_eq_true rfl, Nat.le_of_ble_eq_true rfl⟩) (he_preV (wc := [(m0, .inr (10, [.int 0, .int 0, .int 0, .int (-1), .int 0, .int 0, .int 0, .int 0, .ref fd, .ref rfm, .ref rt_, .ref to_, .ref rw_, .ref wa, .int 0, .ref rk, .ref rb, .ref cn, .ref br, .ref sm, .ref as_, .ref go, .ref sh_, .int 0, .int 1, .int 1, .int 0, .int 0, .int 0, .ref ki, .ref tg, .ref of_, .ref kp, .int 0, .ref rs])), (rfm, .inl (g.2 1, 3, .inl rc))]) hK hP hD hS hA hE [0, 1] rfl rfl 0 rfl rfl) rfl rfl hl.1 rfl (lv_room (Nat.le_of_ble_eq_true rfl)) dX11_offers_43 ⟨(Nat.le_of_ble_eq_true rfl), (Nat.le_of_ble_eq_true rfl)⟩) hP hD hS hA [0, 1] [] rfl rfl rfl (by decide) (fun r_5 u_6 H locs h_7 hP hD hS => ?_)
    subst h_7
    have hP : va_P g.1 vwCl [(m0, .inr (10, [.int 1, .int 0, .int 0, .int (-1), .int 0, .int 0, .int 0, .int 0, .ref fd, .ref rfm, .ref rt_, .ref to_, .ref rw_, .ref wa, .int 0, .ref rk, .ref rb, .ref cn, .ref br, .ref sm, .ref as_, .ref go, .ref sh_, .int 0, .int 1, .int 1, .int 0, .int 0, .int 0, .ref ki, .ref tg, .ref of_, .ref kp, .int 0, .ref rs])), (rfm, .inl (g.2 1, 3, .inl (upd rc 2 (rc 2 + 1))))] H := hP
    have hD : va_D A [(m0, .inr (10, [.int 1, .int 0, .int 0, .int (-1), .int 0, .int 0, .int 0, .int 0, .ref fd, .ref rfm, .ref rt_, .ref to_, .ref rw_, .ref wa, .int 0, .ref rk, .ref rb, .ref cn, .ref br, .ref sm, .ref as_, .ref go, .ref sh_, .int 0, .int 1, .int 1, .int 0, .int 0, .int 0, .ref ki, .ref tg, .ref of_, .ref kp, .int 0, .ref rs])), (rfm, .inl (g.2 1, 3, .inl (upd rc 2 (rc 2 + 1))))] := hD
    refine lv_if_eq (tgt := 51) hx hb dX11_offers_46 (by decide) (fun c_8 => ?_) (fun c_8 => ?_)
    · exact absurd c_8 (by decide)
    · refine lv_iconst (v := 0) hx hb dX11_offers_49 (by decide) ?_
      have hP := hP.sub (ws' := [(m0, .inr (10, [.int 1, .int 0, .int 0, .int (-1), .int 0, .int 0, .int 0, .int 0, .ref fd, .ref rfm, .ref rt_, .ref to_, .ref rw_, .ref wa, .int 0, .ref rk, .ref rb, .ref cn, .ref br, .ref sm, .ref as_, .ref go, .ref sh_, .int 0, .int 1, .int 1, .int 0, .int 0, .int 0, .ref ki, .ref tg, .ref of_, .ref kp, .int 0, .ref rs]))]) [0] rfl
      have hD := hD.sub (ws' := [(m0, .inr (10, [.int 1, .int 0, .int 0, .int (-1), .int 0, .int 0, .int 0, .int 0, .ref fd, .ref rfm, .ref rt_, .ref to_, .ref rw_, .ref wa, .int 0, .ref rk, .ref rb, .ref cn, .ref br, .ref sm, .ref as_, .ref go, .ref sh_, .int 0, .int 1, .int 1, .int 0, .int 0, .int 0, .ref ki, .ref tg, .ref of_, .ref kp, .int 0, .ref rs]))]) [0] (by decide) rfl
      exact he_ri hQ hx hb hr hlk hP hD hS dX11_offers_50 (Nat.le_of_ble_eq_true rfl) (Nat.le_of_ble_eq_true rfl) (()) (rfl) (rfl)
  · refine lv_iload_n hx hb dX11_offers_15 rfl (lv_at hl 2 rfl) ?_
    refine lv_iconst (v := 0) hx hb dX11_offers_16 (by decide) ?_
    refine lv_bipush (v := 11) hx hb dX11_offers_17 (by decide) ?_
    refine he_ci (wc := []) (wr := [(m0, .inr (10, [.int 0, .int 0, .int 0, .int (-1), .int 0, .int 0, .int 0, .int 0, .ref fd, .ref rfm, .ref rt_, .ref to_, .ref rw_, .ref wa, .int 0, .ref rk, .ref rb, .ref cn, .ref br, .ref sm, .ref as_, .ref go, .ref sh_, .int 0, .int 1, .int 1, .int 0, .int 0, .int 0, .ref ki, .ref tg, .ref of_, .ref kp, .int 0, .ref rs])), (rfm, .inl (g.2 1, 3, .inl rc))]) (va_runS (As := [.int y, .int 0, .int 11]) (rest := [.ref m0]) ⟨hx, hb, hml, hown, hts⟩ (c_X11_in l g y 0 11 H.size) (va_cwS 3 hts gX11_offers_X11_in rfl rfl rfl (by decide +kernel) ⟨Nat.le_of_ble_eq_true rfl, Nat.le_of_ble_eq_true rfl⟩) (he_preS (wc := []) hK hP hD hS hA hE [] rfl rfl) rfl rfl hl.1 rfl (lv_room (Nat.le_of_ble_eq_true rfl)) dX11_offers_19 ⟨(Nat.le_of_ble_eq_true rfl), (Nat.le_of_ble_eq_true rfl)⟩) hP hD hS hA [] [0, 1] rfl rfl rfl (by decide) (fun r_9 u_10 H locs h_11 hP hD hS => ?_)
    subst h_11
    have hP : va_P g.1 vwCl [(m0, .inr (10, [.int 0, .int 0, .int 0, .int (-1), .int 0, .int 0, .int 0, .int 0, .ref fd, .ref rfm, .ref rt_, .ref to_, .ref rw_, .ref wa, .int 0, .ref rk, .ref rb, .ref cn, .ref br, .ref sm, .ref as_, .ref go, .ref sh_, .int 0, .int 1, .int 1, .int 0, .int 0, .int 0, .ref ki, .ref tg, .ref of_, .ref kp, .int 0, .ref rs])), (rfm, .inl (g.2 1, 3, .inl rc))] H := hP
    have hD : va_D A [(m0, .inr (10, [.int 0, .int 0, .int 0, .int (-1), .int 0, .int 0, .int 0, .int 0, .ref fd, .ref rfm, .ref rt_, .ref to_, .ref rw_, .ref wa, .int 0, .ref rk, .ref rb, .ref cn, .ref br, .ref sm, .ref as_, .ref go, .ref sh_, .int 0, .int 1, .int 1, .int 0, .int 0, .int 0, .ref ki, .ref tg, .ref of_, .ref kp, .int 0, .ref rs])), (rfm, .inl (g.2 1, 3, .inl rc))] := hD
    refine lv_if_eq (tgt := 36) hx hb dX11_offers_22 (by decide) (fun c_12 => ?_) (fun c_12 => ?_)
    · refine lv_iconst (v := 1) hx hb dX11_offers_36 (by decide) ?_
      refine lv_goto (tgt := 41) hx hb dX11_offers_37 (by decide) ?_
      refine lv_iconst (v := 1) hx hb dX11_offers_41 (by decide) ?_
      refine lv_iconst (v := 2) hx hb dX11_offers_42 (by decide) ?_
      refine he_ci (wc := [(m0, .inr (10, [.int 0, .int 0, .int 0, .int (-1), .int 0, .int 0, .int 0, .int 0, .ref fd, .ref rfm, .ref rt_, .ref to_, .ref rw_, .ref wa, .int 0, .ref rk, .ref rb, .ref cn, .ref br, .ref sm, .ref as_, .ref go, .ref sh_, .int 0, .int 1, .int 1, .int 0, .int 0, .int 0, .ref ki, .ref tg, .ref of_, .ref kp, .int 0, .ref rs])), (rfm, .inl (g.2 1, 3, .inl rc))]) (wr := []) (va_runV (As := [.int 1, .int 1, .int 2]) (rest := []) ⟨hx, hb, hml, hown, hts⟩ (c_X11_bad1 l g m0 fd rfm rt_ to_ rw_ wa rk rb cn br sm as_ go sh_ ki tg of_ kp rs 0 0 (-1) 0 0 0 0 0 0 1 1 0 0 0 0 1 2 rc (by first | assumption | decide | omega) (by first | assumption | decide | omega) H.size) (cwV 3 hts gX11_offers_X11_bad rfl rfl rfl (by decide +kernel) ⟨Nat.le_of_ble_eq_true rfl, Nat.le_of_ble_eq_true rfl⟩) (he_preV (wc := [(m0, .inr (10, [.int 0, .int 0, .int 0, .int (-1), .int 0, .int 0, .int 0, .int 0, .ref fd, .ref rfm, .ref rt_, .ref to_, .ref rw_, .ref wa, .int 0, .ref rk, .ref rb, .ref cn, .ref br, .ref sm, .ref as_, .ref go, .ref sh_, .int 0, .int 1, .int 1, .int 0, .int 0, .int 0, .ref ki, .ref tg, .ref of_, .ref kp, .int 0, .ref rs])), (rfm, .inl (g.2 1, 3, .inl rc))]) hK hP hD hS hA hE [0, 1] rfl rfl 0 rfl rfl) rfl rfl hl.1 rfl (lv_room (Nat.le_of_ble_eq_true rfl)) dX11_offers_43 ⟨(Nat.le_of_ble_eq_true rfl), (Nat.le_of_ble_eq_true rfl)⟩) hP hD hS hA [0, 1] [] rfl rfl rfl (by decide) (fun r_13 u_14 H locs h_15 hP hD hS => ?_)
      subst h_15
      have hP : va_P g.1 vwCl [(m0, .inr (10, [.int 1, .int 0, .int 0, .int (-1), .int 0, .int 0, .int 0, .int 0, .ref fd, .ref rfm, .ref rt_, .ref to_, .ref rw_, .ref wa, .int 0, .ref rk, .ref rb, .ref cn, .ref br, .ref sm, .ref as_, .ref go, .ref sh_, .int 0, .int 1, .int 1, .int 0, .int 0, .int 0, .ref ki, .ref tg, .ref of_, .ref kp, .int 0, .ref rs])), (rfm, .inl (g.2 1, 3, .inl (upd rc 2 (rc 2 + 1))))] H := hP
      have hD : va_D A [(m0, .inr (10, [.int 1, .int 0, .int 0, .int (-1), .int 0, .int 0, .int 0, .int 0, .ref fd, .ref rfm, .ref rt_, .ref to_, .ref rw_, .ref wa, .int 0, .ref rk, .ref rb, .ref cn, .ref br, .ref sm, .ref as_, .ref go, .ref sh_, .int 0, .int 1, .int 1, .int 0, .int 0, .int 0, .ref ki, .ref tg, .ref of_, .ref kp, .int 0, .ref rs])), (rfm, .inl (g.2 1, 3, .inl (upd rc 2 (rc 2 + 1))))] := hD
      refine lv_if_eq (tgt := 51) hx hb dX11_offers_46 (by decide) (fun c_16 => ?_) (fun c_16 => ?_)
      · exact absurd c_16 (by decide)
      · refine lv_iconst (v := 0) hx hb dX11_offers_49 (by decide) ?_
        have hP := hP.sub (ws' := [(m0, .inr (10, [.int 1, .int 0, .int 0, .int (-1), .int 0, .int 0, .int 0, .int 0, .ref fd, .ref rfm, .ref rt_, .ref to_, .ref rw_, .ref wa, .int 0, .ref rk, .ref rb, .ref cn, .ref br, .ref sm, .ref as_, .ref go, .ref sh_, .int 0, .int 1, .int 1, .int 0, .int 0, .int 0, .ref ki, .ref tg, .ref of_, .ref kp, .int 0, .ref rs]))]) [0] rfl
        have hD := hD.sub (ws' := [(m0, .inr (10, [.int 1, .int 0, .int 0, .int (-1), .int 0, .int 0, .int 0, .int 0, .ref fd, .ref rfm, .ref rt_, .ref to_, .ref rw_, .ref wa, .int 0, .ref rk, .ref rb, .ref cn, .ref br, .ref sm, .ref as_, .ref go, .ref sh_, .int 0, .int 1, .int 1, .int 0, .int 0, .int 0, .ref ki, .ref tg, .ref of_, .ref kp, .int 0, .ref rs]))]) [0] (by decide) rfl
        exact he_ri hQ hx hb hr hlk hP hD hS dX11_offers_50 (Nat.le_of_ble_eq_true rfl) (Nat.le_of_ble_eq_true rfl) (()) (rfl) (rfl)
    · refine lv_iload_n hx hb dX11_offers_25 rfl (lv_at hl 3 rfl) ?_
      refine lv_iconst (v := 0) hx hb dX11_offers_26 (by decide) ?_
      refine lv_sipush (v := 999) hx hb dX11_offers_27 (by decide) ?_
      refine he_ci (wc := []) (wr := [(m0, .inr (10, [.int 0, .int 0, .int 0, .int (-1), .int 0, .int 0, .int 0, .int 0, .ref fd, .ref rfm, .ref rt_, .ref to_, .ref rw_, .ref wa, .int 0, .ref rk, .ref rb, .ref cn, .ref br, .ref sm, .ref as_, .ref go, .ref sh_, .int 0, .int 1, .int 1, .int 0, .int 0, .int 0, .ref ki, .ref tg, .ref of_, .ref kp, .int 0, .ref rs])), (rfm, .inl (g.2 1, 3, .inl rc))]) (va_runS (As := [.int z, .int 0, .int 999]) (rest := [.ref m0]) ⟨hx, hb, hml, hown, hts⟩ (c_X11_in l g z 0 999 H.size) (va_cwS 3 hts gX11_offers_X11_in rfl rfl rfl (by decide +kernel) ⟨Nat.le_of_ble_eq_true rfl, Nat.le_of_ble_eq_true rfl⟩) (he_preS (wc := []) hK hP hD hS hA hE [] rfl rfl) rfl rfl hl.1 rfl (lv_room (Nat.le_of_ble_eq_true rfl)) dX11_offers_30 ⟨(Nat.le_of_ble_eq_true rfl), (Nat.le_of_ble_eq_true rfl)⟩) hP hD hS hA [] [0, 1] rfl rfl rfl (by decide) (fun r_17 u_18 H locs h_19 hP hD hS => ?_)
      subst h_19
      have hP : va_P g.1 vwCl [(m0, .inr (10, [.int 0, .int 0, .int 0, .int (-1), .int 0, .int 0, .int 0, .int 0, .ref fd, .ref rfm, .ref rt_, .ref to_, .ref rw_, .ref wa, .int 0, .ref rk, .ref rb, .ref cn, .ref br, .ref sm, .ref as_, .ref go, .ref sh_, .int 0, .int 1, .int 1, .int 0, .int 0, .int 0, .ref ki, .ref tg, .ref of_, .ref kp, .int 0, .ref rs])), (rfm, .inl (g.2 1, 3, .inl rc))] H := hP
      have hD : va_D A [(m0, .inr (10, [.int 0, .int 0, .int 0, .int (-1), .int 0, .int 0, .int 0, .int 0, .ref fd, .ref rfm, .ref rt_, .ref to_, .ref rw_, .ref wa, .int 0, .ref rk, .ref rb, .ref cn, .ref br, .ref sm, .ref as_, .ref go, .ref sh_, .int 0, .int 1, .int 1, .int 0, .int 0, .int 0, .ref ki, .ref tg, .ref of_, .ref kp, .int 0, .ref rs])), (rfm, .inl (g.2 1, 3, .inl rc))] := hD
      refine lv_if_ne (tgt := 40) hx hb dX11_offers_33 (by decide) (fun c_20 => ?_) (fun c_20 => ?_)
      · refine lv_iconst (v := 0) hx hb dX11_offers_40 (by decide) ?_
        refine lv_iconst (v := 1) hx hb dX11_offers_41 (by decide) ?_
        refine lv_iconst (v := 2) hx hb dX11_offers_42 (by decide) ?_
        exact absurd hbad (by rintro (h9 | h9 | h9) <;> contradiction)
      · refine lv_iconst (v := 1) hx hb dX11_offers_36 (by decide) ?_
        refine lv_goto (tgt := 41) hx hb dX11_offers_37 (by decide) ?_
        refine lv_iconst (v := 1) hx hb dX11_offers_41 (by decide) ?_
        refine lv_iconst (v := 2) hx hb dX11_offers_42 (by decide) ?_
        refine he_ci (wc := [(m0, .inr (10, [.int 0, .int 0, .int 0, .int (-1), .int 0, .int 0, .int 0, .int 0, .ref fd, .ref rfm, .ref rt_, .ref to_, .ref rw_, .ref wa, .int 0, .ref rk, .ref rb, .ref cn, .ref br, .ref sm, .ref as_, .ref go, .ref sh_, .int 0, .int 1, .int 1, .int 0, .int 0, .int 0, .ref ki, .ref tg, .ref of_, .ref kp, .int 0, .ref rs])), (rfm, .inl (g.2 1, 3, .inl rc))]) (wr := []) (va_runV (As := [.int 1, .int 1, .int 2]) (rest := []) ⟨hx, hb, hml, hown, hts⟩ (c_X11_bad1 l g m0 fd rfm rt_ to_ rw_ wa rk rb cn br sm as_ go sh_ ki tg of_ kp rs 0 0 (-1) 0 0 0 0 0 0 1 1 0 0 0 0 1 2 rc (by first | assumption | decide | omega) (by first | assumption | decide | omega) H.size) (cwV 3 hts gX11_offers_X11_bad rfl rfl rfl (by decide +kernel) ⟨Nat.le_of_ble_eq_true rfl, Nat.le_of_ble_eq_true rfl⟩) (he_preV (wc := [(m0, .inr (10, [.int 0, .int 0, .int 0, .int (-1), .int 0, .int 0, .int 0, .int 0, .ref fd, .ref rfm, .ref rt_, .ref to_, .ref rw_, .ref wa, .int 0, .ref rk, .ref rb, .ref cn, .ref br, .ref sm, .ref as_, .ref go, .ref sh_, .int 0, .int 1, .int 1, .int 0, .int 0, .int 0, .ref ki, .ref tg, .ref of_, .ref kp, .int 0, .ref rs])), (rfm, .inl (g.2 1, 3, .inl rc))]) hK hP hD hS hA hE [0, 1] rfl rfl 0 rfl rfl) rfl rfl hl.1 rfl (lv_room (Nat.le_of_ble_eq_true rfl)) dX11_offers_43 ⟨(Nat.le_of_ble_eq_true rfl), (Nat.le_of_ble_eq_true rfl)⟩) hP hD hS hA [0, 1] [] rfl rfl rfl (by decide) (fun r_21 u_22 H locs h_23 hP hD hS => ?_)
        subst h_23
        have hP : va_P g.1 vwCl [(m0, .inr (10, [.int 1, .int 0, .int 0, .int (-1), .int 0, .int 0, .int 0, .int 0, .ref fd, .ref rfm, .ref rt_, .ref to_, .ref rw_, .ref wa, .int 0, .ref rk, .ref rb, .ref cn, .ref br, .ref sm, .ref as_, .ref go, .ref sh_, .int 0, .int 1, .int 1, .int 0, .int 0, .int 0, .ref ki, .ref tg, .ref of_, .ref kp, .int 0, .ref rs])), (rfm, .inl (g.2 1, 3, .inl (upd rc 2 (rc 2 + 1))))] H := hP
        have hD : va_D A [(m0, .inr (10, [.int 1, .int 0, .int 0, .int (-1), .int 0, .int 0, .int 0, .int 0, .ref fd, .ref rfm, .ref rt_, .ref to_, .ref rw_, .ref wa, .int 0, .ref rk, .ref rb, .ref cn, .ref br, .ref sm, .ref as_, .ref go, .ref sh_, .int 0, .int 1, .int 1, .int 0, .int 0, .int 0, .ref ki, .ref tg, .ref of_, .ref kp, .int 0, .ref rs])), (rfm, .inl (g.2 1, 3, .inl (upd rc 2 (rc 2 + 1))))] := hD
        refine lv_if_eq (tgt := 51) hx hb dX11_offers_46 (by decide) (fun c_24 => ?_) (fun c_24 => ?_)
        · exact absurd c_24 (by decide)
        · refine lv_iconst (v := 0) hx hb dX11_offers_49 (by decide) ?_
          have hP := hP.sub (ws' := [(m0, .inr (10, [.int 1, .int 0, .int 0, .int (-1), .int 0, .int 0, .int 0, .int 0, .ref fd, .ref rfm, .ref rt_, .ref to_, .ref rw_, .ref wa, .int 0, .ref rk, .ref rb, .ref cn, .ref br, .ref sm, .ref as_, .ref go, .ref sh_, .int 0, .int 1, .int 1, .int 0, .int 0, .int 0, .ref ki, .ref tg, .ref of_, .ref kp, .int 0, .ref rs]))]) [0] rfl
          have hD := hD.sub (ws' := [(m0, .inr (10, [.int 1, .int 0, .int 0, .int (-1), .int 0, .int 0, .int 0, .int 0, .ref fd, .ref rfm, .ref rt_, .ref to_, .ref rw_, .ref wa, .int 0, .ref rk, .ref rb, .ref cn, .ref br, .ref sm, .ref as_, .ref go, .ref sh_, .int 0, .int 1, .int 1, .int 0, .int 0, .int 0, .ref ki, .ref tg, .ref of_, .ref kp, .int 0, .ref rs]))]) [0] (by decide) rfl
          exact he_ri hQ hx hb hr hlk hP hD hS dX11_offers_50 (Nat.le_of_ble_eq_true rfl) (Nat.le_of_ble_eq_true rfl) (()) (rfl) (rfl)
set_option maxHeartbeats 4000000 in
set_option maxRecDepth 100000 in
theorem c_X11_restore (l : Launch) (g : he_G) (m0 : Nat) (fd : Nat) (rfm : Nat) (rt_ : Nat) (to_ : Nat) (rw_ : Nat) (wa : Nat) (rk : Nat) (rb : Nat) (cn : Nat) (br : Nat) (sm : Nat) (as_ : Nat) (go : Nat) (sh_ : Nat) (ki : Nat) (tg : Nat) (of_ : Nat) (kp : Nat) (rs : Nat)  : he_I l yX11_restore wsX11_restore 0 0 0 0 g [.ref m0] [(m0, .inr (10, [.int 0, .int 0, .int 0, .int (-1), .int 0, .int 0, .int 0, .int 0, .ref fd, .ref rfm, .ref rt_, .ref to_, .ref rw_, .ref wa, .int 0, .ref rk, .ref rb, .ref cn, .ref br, .ref sm, .ref as_, .ref go, .ref sh_, .int 0, .int 1, .int 1, .int 0, .int 0, .int 0, .ref ki, .ref tg, .ref of_, .ref kp, .int 0, .ref rs]))] (fun (r : Int32) (u : Unit) => r = (-1)) (fun (u : Unit) => [(m0, .inr (10, [.int 0, .int 0, .int 0, .int (-1), .int 0, .int 0, .int 0, .int 0, .ref fd, .ref rfm, .ref rt_, .ref to_, .ref rw_, .ref wa, .int 0, .ref rk, .ref rb, .ref cn, .ref br, .ref sm, .ref as_, .ref go, .ref sh_, .int 0, .int 1, .int 1, .int 0, .int 0, .int 0, .ref ki, .ref tg, .ref of_, .ref kp, .int 0, .ref rs]))]) := by
  refine he_begin (l := l) (g := g) (y := yX11_restore) (wl := wsX11_restore) (fr := 0) (lo := 0) (mc := 0) (ms := 0) (av := [.ref m0]) (ws := [(m0, .inr (10, [.int 0, .int 0, .int 0, .int (-1), .int 0, .int 0, .int 0, .int 0, .ref fd, .ref rfm, .ref rt_, .ref to_, .ref rw_, .ref wa, .int 0, .ref rk, .ref rb, .ref cn, .ref br, .ref sm, .ref as_, .ref go, .ref sh_, .int 0, .int 1, .int 1, .int 0, .int 0, .int 0, .ref ki, .ref tg, .ref of_, .ref kp, .int 0, .ref rs]))]) (cc := cX11_restore) (maxL := 1) (ret := (some .int)) (fun A => va_Qi (fun (r : Int32) (u : Unit) => r = (-1)) (fun u t => he_post g A ((fun (u : Unit) => [(m0, .inr (10, [.int 0, .int 0, .int 0, .int (-1), .int 0, .int 0, .int 0, .int 0, .ref fd, .ref rfm, .ref rt_, .ref to_, .ref rw_, .ref wa, .int 0, .ref rk, .ref rb, .ref cn, .ref br, .ref sm, .ref as_, .ref go, .ref sh_, .int 0, .int 1, .int 1, .int 0, .int 0, .int 0, .ref ki, .ref tg, .ref of_, .ref kp, .int 0, .ref rs]))]) u) t) A) (by decide) rfl (Nat.le_of_ble_eq_true rfl) ?_
  intro p e s m args below meth c A ls H locs Q hQ hB
  obtain ⟨hx, hb, hr, hml, hown, hts, hlk, hin, hP, hK, hD, hS, hA, hE, hl⟩ := hB
  have hl : lv_has ls 1 [(0, .ref m0)] := hl
  have f85 := hts (.fieldLink RX11 85 "HiredEnemyModel" "thrown" "I") (by decide +kernel)
  have inX11 : ∀ w ∈ wsX110, w ∈ wsX11_restore := by decide +kernel
  have f168 := hts (.fieldLink RX11 168 "HiredEnemyModel" "images" "I") (by decide +kernel)
  refine lv_aload_n hx hb dX11_restore_0 rfl (lv_at hl 0 rfl) ?_
  refine lv_iconst (v := 0) hx hb dX11_restore_1 (by decide) ?_
  refine va_put (v := .int 0) (ty := .int) (T := TX11) (N := 35) hx hb hts inX11 tyX11 tyX11_ok nmX11 hown hK hP hD hS 0 rfl rfl 0 (by decide) f85 (fun _ h9 => h9) rfl (by decide +kernel) rfl rfl (Nat.le_of_ble_eq_true rfl) dX11_restore_2 (fun H locs hP hD hS => ?_)
  have hP : va_P g.1 vwCl [(m0, .inr (10, [.int 0, .int 0, .int 0, .int (-1), .int 0, .int 0, .int 0, .int 0, .ref fd, .ref rfm, .ref rt_, .ref to_, .ref rw_, .ref wa, .int 0, .ref rk, .ref rb, .ref cn, .ref br, .ref sm, .ref as_, .ref go, .ref sh_, .int 0, .int 1, .int 1, .int 0, .int 0, .int 0, .ref ki, .ref tg, .ref of_, .ref kp, .int 0, .ref rs]))] H := hP
  have hD : va_D A [(m0, .inr (10, [.int 0, .int 0, .int 0, .int (-1), .int 0, .int 0, .int 0, .int 0, .ref fd, .ref rfm, .ref rt_, .ref to_, .ref rw_, .ref wa, .int 0, .ref rk, .ref rb, .ref cn, .ref br, .ref sm, .ref as_, .ref go, .ref sh_, .int 0, .int 1, .int 1, .int 0, .int 0, .int 0, .ref ki, .ref tg, .ref of_, .ref kp, .int 0, .ref rs]))] := hD
  refine lv_aload_n hx hb dX11_restore_5 rfl (lv_at hl 0 rfl) ?_
  refine va_get (v := .int 0) (T := TX11) (N := 35) hx hb hts inX11 hown hK hP 0 rfl rfl 27 (by decide) f168 (fun _ h9 => h9) rfl dX11_restore_6 ?_
  refine lv_if_ne (tgt := 14) hx hb dX11_restore_9 (by decide) (fun c_1 => ?_) (fun c_1 => ?_)
  · exact absurd (by decide) c_1
  · refine lv_iconst (v := (-1)) hx hb dX11_restore_12 (by decide) ?_
    exact he_ri hQ hx hb hr hlk hP hD hS dX11_restore_13 (Nat.le_of_ble_eq_true rfl) (Nat.le_of_ble_eq_true rfl) (()) (rfl) (rfl)
set_option maxHeartbeats 4000000 in
set_option maxRecDepth 100000 in
theorem c_X11_status (l : Launch) (g : he_G) (m0 : Nat) (fd : Nat) (rfm : Nat) (rt_ : Nat) (to_ : Nat) (rw_ : Nat) (wa : Nat) (rk : Nat) (rb : Nat) (cn : Nat) (br : Nat) (sm : Nat) (as_ : Nat) (go : Nat) (sh_ : Nat) (ki : Nat) (tg : Nat) (of_ : Nat) (kp : Nat) (rs : Nat) (rc : Nat → Int32) (x : Int32) (hok0 : ¬ he_within x 0 2 = 0) : he_I l yX11_status wsX11_status 1 22 0 0 g [.ref m0, .int x] [(m0, .inr (10, [.int 0, .int 0, .int 0, .int (-1), .int 0, .int 0, .int 0, .int 0, .ref fd, .ref rfm, .ref rt_, .ref to_, .ref rw_, .ref wa, .int 0, .ref rk, .ref rb, .ref cn, .ref br, .ref sm, .ref as_, .ref go, .ref sh_, .int 0, .int 1, .int 1, .int 0, .int 0, .int 0, .ref ki, .ref tg, .ref of_, .ref kp, .int 0, .ref rs])), (rfm, .inl (g.2 1, 3, .inl rc))] (fun (r : Int32) (u : Unit) => r = rc x.toNatClampNeg) (fun (u : Unit) => [(m0, .inr (10, [.int 0, .int 0, .int 0, .int (-1), .int 0, .int 0, .int 0, .int 0, .ref fd, .ref rfm, .ref rt_, .ref to_, .ref rw_, .ref wa, .int 0, .ref rk, .ref rb, .ref cn, .ref br, .ref sm, .ref as_, .ref go, .ref sh_, .int 0, .int 1, .int 1, .int 0, .int 0, .int 0, .ref ki, .ref tg, .ref of_, .ref kp, .int 0, .ref rs]))]) := by
  refine he_begin (l := l) (g := g) (y := yX11_status) (wl := wsX11_status) (fr := 1) (lo := 22) (mc := 0) (ms := 0) (av := [.ref m0, .int x]) (ws := [(m0, .inr (10, [.int 0, .int 0, .int 0, .int (-1), .int 0, .int 0, .int 0, .int 0, .ref fd, .ref rfm, .ref rt_, .ref to_, .ref rw_, .ref wa, .int 0, .ref rk, .ref rb, .ref cn, .ref br, .ref sm, .ref as_, .ref go, .ref sh_, .int 0, .int 1, .int 1, .int 0, .int 0, .int 0, .ref ki, .ref tg, .ref of_, .ref kp, .int 0, .ref rs])), (rfm, .inl (g.2 1, 3, .inl rc))]) (cc := cX11_status) (maxL := 2) (ret := (some .int)) (fun A => va_Qi (fun (r : Int32) (u : Unit) => r = rc x.toNatClampNeg) (fun u t => he_post g A ((fun (u : Unit) => [(m0, .inr (10, [.int 0, .int 0, .int 0, .int (-1), .int 0, .int 0, .int 0, .int 0, .ref fd, .ref rfm, .ref rt_, .ref to_, .ref rw_, .ref wa, .int 0, .ref rk, .ref rb, .ref cn, .ref br, .ref sm, .ref as_, .ref go, .ref sh_, .int 0, .int 1, .int 1, .int 0, .int 0, .int 0, .ref ki, .ref tg, .ref of_, .ref kp, .int 0, .ref rs]))]) u) t) A) (by decide) rfl (Nat.le_of_ble_eq_true rfl) ?_
  intro p e s m args below meth c A ls H locs Q hQ hB
  obtain ⟨hx, hb, hr, hml, hown, hts, hlk, hin, hP, hK, hD, hS, hA, hE, hl⟩ := hB
  have hl : lv_has ls 2 [(0, .ref m0), (1, .int x)] := hl
  have f85 := hts (.fieldLink RX11 85 "HiredEnemyModel" "thrown" "I") (by decide +kernel)
  have inX11 : ∀ w ∈ wsX110, w ∈ wsX11_status := by decide +kernel
  have f17 := hts (.fieldLink RX11 17 "HiredEnemyModel" "refused" "[I") (by decide +kernel)
  refine lv_aload_n hx hb dX11_status_0 rfl (lv_at hl 0 rfl) ?_
  refine lv_iconst (v := 0) hx hb dX11_status_1 (by decide) ?_
  refine va_put (v := .int 0) (ty := .int) (T := TX11) (N := 35) hx hb hts inX11 tyX11 tyX11_ok nmX11 hown hK hP hD hS 0 rfl rfl 0 (by decide) f85 (fun _ h9 => h9) rfl (by decide +kernel) rfl rfl (Nat.le_of_ble_eq_true rfl) dX11_status_2 (fun H locs hP hD hS => ?_)
  have hP : va_P g.1 vwCl [(m0, .inr (10, [.int 0, .int 0, .int 0, .int (-1), .int 0, .int 0, .int 0, .int 0, .ref fd, .ref rfm, .ref rt_, .ref to_, .ref rw_, .ref wa, .int 0, .ref rk, .ref rb, .ref cn, .ref br, .ref sm, .ref as_, .ref go, .ref sh_, .int 0, .int 1, .int 1, .int 0, .int 0, .int 0, .ref ki, .ref tg, .ref of_, .ref kp, .int 0, .ref rs])), (rfm, .inl (g.2 1, 3, .inl rc))] H := hP
  have hD : va_D A [(m0, .inr (10, [.int 0, .int 0, .int 0, .int (-1), .int 0, .int 0, .int 0, .int 0, .ref fd, .ref rfm, .ref rt_, .ref to_, .ref rw_, .ref wa, .int 0, .ref rk, .ref rb, .ref cn, .ref br, .ref sm, .ref as_, .ref go, .ref sh_, .int 0, .int 1, .int 1, .int 0, .int 0, .int 0, .ref ki, .ref tg, .ref of_, .ref kp, .int 0, .ref rs])), (rfm, .inl (g.2 1, 3, .inl rc))] := hD
  refine lv_iload_n hx hb dX11_status_5 rfl (lv_at hl 1 rfl) ?_
  refine lv_iconst (v := 0) hx hb dX11_status_6 (by decide) ?_
  refine lv_iconst (v := 2) hx hb dX11_status_7 (by decide) ?_
  refine he_ci (wc := []) (wr := [(m0, .inr (10, [.int 0, .int 0, .int 0, .int (-1), .int 0, .int 0, .int 0, .int 0, .ref fd, .ref rfm, .ref rt_, .ref to_, .ref rw_, .ref wa, .int 0, .ref rk, .ref rb, .ref cn, .ref br, .ref sm, .ref as_, .ref go, .ref sh_, .int 0, .int 1, .int 1, .int 0, .int 0, .int 0, .ref ki, .ref tg, .ref of_, .ref kp, .int 0, .ref rs])), (rfm, .inl (g.2 1, 3, .inl rc))]) (va_runS (As := [.int x, .int 0, .int 2]) (rest := []) ⟨hx, hb, hml, hown, hts⟩ (c_X11_in l g x 0 2 H.size) (va_cwS 3 hts gX11_status_X11_in rfl rfl rfl (by decide +kernel) ⟨Nat.le_of_ble_eq_true rfl, Nat.le_of_ble_eq_true rfl⟩) (he_preS (wc := []) hK hP hD hS hA hE [] rfl rfl) rfl rfl hl.1 rfl (lv_room (Nat.le_of_ble_eq_true rfl)) dX11_status_8 ⟨(Nat.le_of_ble_eq_true rfl), (Nat.le_of_ble_eq_true rfl)⟩) hP hD hS hA [] [0, 1] rfl rfl rfl (by decide) (fun r_1 u_2 H locs h_3 hP hD hS => ?_)
  subst h_3
  have hP : va_P g.1 vwCl [(m0, .inr (10, [.int 0, .int 0, .int 0, .int (-1), .int 0, .int 0, .int 0, .int 0, .ref fd, .ref rfm, .ref rt_, .ref to_, .ref rw_, .ref wa, .int 0, .ref rk, .ref rb, .ref cn, .ref br, .ref sm, .ref as_, .ref go, .ref sh_, .int 0, .int 1, .int 1, .int 0, .int 0, .int 0, .ref ki, .ref tg, .ref of_, .ref kp, .int 0, .ref rs])), (rfm, .inl (g.2 1, 3, .inl rc))] H := hP
  have hD : va_D A [(m0, .inr (10, [.int 0, .int 0, .int 0, .int (-1), .int 0, .int 0, .int 0, .int 0, .ref fd, .ref rfm, .ref rt_, .ref to_, .ref rw_, .ref wa, .int 0, .ref rk, .ref rb, .ref cn, .ref br, .ref sm, .ref as_, .ref go, .ref sh_, .int 0, .int 1, .int 1, .int 0, .int 0, .int 0, .ref ki, .ref tg, .ref of_, .ref kp, .int 0, .ref rs])), (rfm, .inl (g.2 1, 3, .inl rc))] := hD
  refine he_top (1) (he_within_1 hok0) ?_
  refine lv_if_eq (tgt := 23) hx hb dX11_status_11 (by decide) (fun c_4 => ?_) (fun c_4 => ?_)
  · exact absurd c_4 (by decide)
  · refine lv_aload_n hx hb dX11_status_14 rfl (lv_at hl 0 rfl) ?_
    refine va_get (v := .ref rfm) (T := TX11) (N := 35) hx hb hts inX11 hown hK hP 0 rfl rfl 9 (by decide) f17 (fun _ h9 => h9) rfl dX11_status_15 ?_
    refine lv_iload_n hx hb dX11_status_18 rfl (lv_at hl 1 rfl) ?_
    refine he_iald hx hb hK hP 1 rfl (x.toNatClampNeg) (he_within_nat (B := 2) rfl (by decide) hok0).1 (Nat.lt_of_le_of_lt (he_within_nat (B := 2) rfl (by decide) hok0).2 (by decide)) (by first | decide | assumption) (rc x.toNatClampNeg) rfl dX11_status_19 ?_
    refine lv_goto (tgt := 24) hx hb dX11_status_20 (by decide) ?_
    have hP := hP.sub (ws' := [(m0, .inr (10, [.int 0, .int 0, .int 0, .int (-1), .int 0, .int 0, .int 0, .int 0, .ref fd, .ref rfm, .ref rt_, .ref to_, .ref rw_, .ref wa, .int 0, .ref rk, .ref rb, .ref cn, .ref br, .ref sm, .ref as_, .ref go, .ref sh_, .int 0, .int 1, .int 1, .int 0, .int 0, .int 0, .ref ki, .ref tg, .ref of_, .ref kp, .int 0, .ref rs]))]) [0] rfl
    have hD := hD.sub (ws' := [(m0, .inr (10, [.int 0, .int 0, .int 0, .int (-1), .int 0, .int 0, .int 0, .int 0, .ref fd, .ref rfm, .ref rt_, .ref to_, .ref rw_, .ref wa, .int 0, .ref rk, .ref rb, .ref cn, .ref br, .ref sm, .ref as_, .ref go, .ref sh_, .int 0, .int 1, .int 1, .int 0, .int 0, .int 0, .ref ki, .ref tg, .ref of_, .ref kp, .int 0, .ref rs]))]) [0] (by decide) rfl
    exact he_ri hQ hx hb hr hlk hP hD hS dX11_status_24 (Nat.le_of_ble_eq_true rfl) (Nat.le_of_ble_eq_true rfl) (()) (rfl) (rfl)
set_option maxHeartbeats 4000000 in
set_option maxRecDepth 100000 in
theorem c_X11_statusN (l : Launch) (g : he_G) (m0 : Nat) (fd : Nat) (rfm : Nat) (rt_ : Nat) (to_ : Nat) (rw_ : Nat) (wa : Nat) (rk : Nat) (rb : Nat) (cn : Nat) (br : Nat) (sm : Nat) (as_ : Nat) (go : Nat) (sh_ : Nat) (ki : Nat) (tg : Nat) (of_ : Nat) (kp : Nat) (rs : Nat) (x : Int32) (hno : he_within x 0 2 = 0) : he_I l yX11_status wsX11_status 1 22 0 0 g [.ref m0, .int x] [(m0, .inr (10, [.int 0, .int 0, .int 0, .int (-1), .int 0, .int 0, .int 0, .int 0, .ref fd, .ref rfm, .ref rt_, .ref to_, .ref rw_, .ref wa, .int 0, .ref rk, .ref rb, .ref cn, .ref br, .ref sm, .ref as_, .ref go, .ref sh_, .int 0, .int 1, .int 1, .int 0, .int 0, .int 0, .ref ki, .ref tg, .ref of_, .ref kp, .int 0, .ref rs]))] (fun (r : Int32) (u : Unit) => r = (-1)) (fun (u : Unit) => [(m0, .inr (10, [.int 0, .int 0, .int 0, .int (-1), .int 0, .int 0, .int 0, .int 0, .ref fd, .ref rfm, .ref rt_, .ref to_, .ref rw_, .ref wa, .int 0, .ref rk, .ref rb, .ref cn, .ref br, .ref sm, .ref as_, .ref go, .ref sh_, .int 0, .int 1, .int 1, .int 0, .int 0, .int 0, .ref ki, .ref tg, .ref of_, .ref kp, .int 0, .ref rs]))]) := by
  refine he_begin (l := l) (g := g) (y := yX11_status) (wl := wsX11_status) (fr := 1) (lo := 22) (mc := 0) (ms := 0) (av := [.ref m0, .int x]) (ws := [(m0, .inr (10, [.int 0, .int 0, .int 0, .int (-1), .int 0, .int 0, .int 0, .int 0, .ref fd, .ref rfm, .ref rt_, .ref to_, .ref rw_, .ref wa, .int 0, .ref rk, .ref rb, .ref cn, .ref br, .ref sm, .ref as_, .ref go, .ref sh_, .int 0, .int 1, .int 1, .int 0, .int 0, .int 0, .ref ki, .ref tg, .ref of_, .ref kp, .int 0, .ref rs]))]) (cc := cX11_status) (maxL := 2) (ret := (some .int)) (fun A => va_Qi (fun (r : Int32) (u : Unit) => r = (-1)) (fun u t => he_post g A ((fun (u : Unit) => [(m0, .inr (10, [.int 0, .int 0, .int 0, .int (-1), .int 0, .int 0, .int 0, .int 0, .ref fd, .ref rfm, .ref rt_, .ref to_, .ref rw_, .ref wa, .int 0, .ref rk, .ref rb, .ref cn, .ref br, .ref sm, .ref as_, .ref go, .ref sh_, .int 0, .int 1, .int 1, .int 0, .int 0, .int 0, .ref ki, .ref tg, .ref of_, .ref kp, .int 0, .ref rs]))]) u) t) A) (by decide) rfl (Nat.le_of_ble_eq_true rfl) ?_
  intro p e s m args below meth c A ls H locs Q hQ hB
  obtain ⟨hx, hb, hr, hml, hown, hts, hlk, hin, hP, hK, hD, hS, hA, hE, hl⟩ := hB
  have hl : lv_has ls 2 [(0, .ref m0), (1, .int x)] := hl
  have f85 := hts (.fieldLink RX11 85 "HiredEnemyModel" "thrown" "I") (by decide +kernel)
  have inX11 : ∀ w ∈ wsX110, w ∈ wsX11_status := by decide +kernel
  refine lv_aload_n hx hb dX11_status_0 rfl (lv_at hl 0 rfl) ?_
  refine lv_iconst (v := 0) hx hb dX11_status_1 (by decide) ?_
  refine va_put (v := .int 0) (ty := .int) (T := TX11) (N := 35) hx hb hts inX11 tyX11 tyX11_ok nmX11 hown hK hP hD hS 0 rfl rfl 0 (by decide) f85 (fun _ h9 => h9) rfl (by decide +kernel) rfl rfl (Nat.le_of_ble_eq_true rfl) dX11_status_2 (fun H locs hP hD hS => ?_)
  have hP : va_P g.1 vwCl [(m0, .inr (10, [.int 0, .int 0, .int 0, .int (-1), .int 0, .int 0, .int 0, .int 0, .ref fd, .ref rfm, .ref rt_, .ref to_, .ref rw_, .ref wa, .int 0, .ref rk, .ref rb, .ref cn, .ref br, .ref sm, .ref as_, .ref go, .ref sh_, .int 0, .int 1, .int 1, .int 0, .int 0, .int 0, .ref ki, .ref tg, .ref of_, .ref kp, .int 0, .ref rs]))] H := hP
  have hD : va_D A [(m0, .inr (10, [.int 0, .int 0, .int 0, .int (-1), .int 0, .int 0, .int 0, .int 0, .ref fd, .ref rfm, .ref rt_, .ref to_, .ref rw_, .ref wa, .int 0, .ref rk, .ref rb, .ref cn, .ref br, .ref sm, .ref as_, .ref go, .ref sh_, .int 0, .int 1, .int 1, .int 0, .int 0, .int 0, .ref ki, .ref tg, .ref of_, .ref kp, .int 0, .ref rs]))] := hD
  refine lv_iload_n hx hb dX11_status_5 rfl (lv_at hl 1 rfl) ?_
  refine lv_iconst (v := 0) hx hb dX11_status_6 (by decide) ?_
  refine lv_iconst (v := 2) hx hb dX11_status_7 (by decide) ?_
  refine he_ci (wc := []) (wr := [(m0, .inr (10, [.int 0, .int 0, .int 0, .int (-1), .int 0, .int 0, .int 0, .int 0, .ref fd, .ref rfm, .ref rt_, .ref to_, .ref rw_, .ref wa, .int 0, .ref rk, .ref rb, .ref cn, .ref br, .ref sm, .ref as_, .ref go, .ref sh_, .int 0, .int 1, .int 1, .int 0, .int 0, .int 0, .ref ki, .ref tg, .ref of_, .ref kp, .int 0, .ref rs]))]) (va_runS (As := [.int x, .int 0, .int 2]) (rest := []) ⟨hx, hb, hml, hown, hts⟩ (c_X11_in l g x 0 2 H.size) (va_cwS 3 hts gX11_status_X11_in rfl rfl rfl (by decide +kernel) ⟨Nat.le_of_ble_eq_true rfl, Nat.le_of_ble_eq_true rfl⟩) (he_preS (wc := []) hK hP hD hS hA hE [] rfl rfl) rfl rfl hl.1 rfl (lv_room (Nat.le_of_ble_eq_true rfl)) dX11_status_8 ⟨(Nat.le_of_ble_eq_true rfl), (Nat.le_of_ble_eq_true rfl)⟩) hP hD hS hA [] [0] rfl rfl rfl (by decide) (fun r_1 u_2 H locs h_3 hP hD hS => ?_)
  subst h_3
  have hP : va_P g.1 vwCl [(m0, .inr (10, [.int 0, .int 0, .int 0, .int (-1), .int 0, .int 0, .int 0, .int 0, .ref fd, .ref rfm, .ref rt_, .ref to_, .ref rw_, .ref wa, .int 0, .ref rk, .ref rb, .ref cn, .ref br, .ref sm, .ref as_, .ref go, .ref sh_, .int 0, .int 1, .int 1, .int 0, .int 0, .int 0, .ref ki, .ref tg, .ref of_, .ref kp, .int 0, .ref rs]))] H := hP
  have hD : va_D A [(m0, .inr (10, [.int 0, .int 0, .int 0, .int (-1), .int 0, .int 0, .int 0, .int 0, .ref fd, .ref rfm, .ref rt_, .ref to_, .ref rw_, .ref wa, .int 0, .ref rk, .ref rb, .ref cn, .ref br, .ref sm, .ref as_, .ref go, .ref sh_, .int 0, .int 1, .int 1, .int 0, .int 0, .int 0, .ref ki, .ref tg, .ref of_, .ref kp, .int 0, .ref rs]))] := hD
  refine he_top (0) hno ?_
  refine lv_if_eq (tgt := 23) hx hb dX11_status_11 (by decide) (fun c_4 => ?_) (fun c_4 => ?_)
  · refine lv_iconst (v := (-1)) hx hb dX11_status_23 (by decide) ?_
    exact he_ri hQ hx hb hr hlk hP hD hS dX11_status_24 (Nat.le_of_ble_eq_true rfl) (Nat.le_of_ble_eq_true rfl) (()) (rfl) (rfl)
  · exact absurd (by decide) c_4
set_option maxHeartbeats 4000000 in
set_option maxRecDepth 100000 in
theorem c_X11_count0 (l : Launch) (g : he_G) (m0 : Nat) (fd : Nat) (rfm : Nat) (rt_ : Nat) (to_ : Nat) (rw_ : Nat) (wa : Nat) (rk : Nat) (rb : Nat) (cn : Nat) (br : Nat) (sm : Nat) (as_ : Nat) (go : Nat) (sh_ : Nat) (ki : Nat) (tg : Nat) (of_ : Nat) (kp : Nat) (rs : Nat)  : he_I l yX11_count wsX11_count 0 0 0 0 g [.ref m0, .int 0] [(m0, .inr (10, [.int 0, .int 0, .int 0, .int (-1), .int 0, .int 0, .int 0, .int 0, .ref fd, .ref rfm, .ref rt_, .ref to_, .ref rw_, .ref wa, .int 0, .ref rk, .ref rb, .ref cn, .ref br, .ref sm, .ref as_, .ref go, .ref sh_, .int 0, .int 1, .int 1, .int 0, .int 0, .int 0, .ref ki, .ref tg, .ref of_, .ref kp, .int 0, .ref rs]))] (fun (r : Int32) (u : Unit) => r = 0) (fun (u : Unit) => [(m0, .inr (10, [.int 0, .int 0, .int 0, .int (-1), .int 0, .int 0, .int 0, .int 0, .ref fd, .ref rfm, .ref rt_, .ref to_, .ref rw_, .ref wa, .int 0, .ref rk, .ref rb, .ref cn, .ref br, .ref sm, .ref as_, .ref go, .ref sh_, .int 0, .int 1, .int 1, .int 0, .int 0, .int 0, .ref ki, .ref tg, .ref of_, .ref kp, .int 0, .ref rs]))]) := by
  refine he_begin (l := l) (g := g) (y := yX11_count) (wl := wsX11_count) (fr := 0) (lo := 0) (mc := 0) (ms := 0) (av := [.ref m0, .int 0]) (ws := [(m0, .inr (10, [.int 0, .int 0, .int 0, .int (-1), .int 0, .int 0, .int 0, .int 0, .ref fd, .ref rfm, .ref rt_, .ref to_, .ref rw_, .ref wa, .int 0, .ref rk, .ref rb, .ref cn, .ref br, .ref sm, .ref as_, .ref go, .ref sh_, .int 0, .int 1, .int 1, .int 0, .int 0, .int 0, .ref ki, .ref tg, .ref of_, .ref kp, .int 0, .ref rs]))]) (cc := cX11_count) (maxL := 2) (ret := (some .int)) (fun A => va_Qi (fun (r : Int32) (u : Unit) => r = 0) (fun u t => he_post g A ((fun (u : Unit) => [(m0, .inr (10, [.int 0, .int 0, .int 0, .int (-1), .int 0, .int 0, .int 0, .int 0, .ref fd, .ref rfm, .ref rt_, .ref to_, .ref rw_, .ref wa, .int 0, .ref rk, .ref rb, .ref cn, .ref br, .ref sm, .ref as_, .ref go, .ref sh_, .int 0, .int 1, .int 1, .int 0, .int 0, .int 0, .ref ki, .ref tg, .ref of_, .ref kp, .int 0, .ref rs]))]) u) t) A) (by decide) rfl (Nat.le_of_ble_eq_true rfl) ?_
  intro p e s m args below meth c A ls H locs Q hQ hB
  obtain ⟨hx, hb, hr, hml, hown, hts, hlk, hin, hP, hK, hD, hS, hA, hE, hl⟩ := hB
  have hl : lv_has ls 2 [(0, .ref m0), (1, .int 0)] := hl
  have f85 := hts (.fieldLink RX11 85 "HiredEnemyModel" "thrown" "I") (by decide +kernel)
  have inX11 : ∀ w ∈ wsX110, w ∈ wsX11_count := by decide +kernel
  have f168 := hts (.fieldLink RX11 168 "HiredEnemyModel" "images" "I") (by decide +kernel)
  refine lv_aload_n hx hb dX11_count_0 rfl (lv_at hl 0 rfl) ?_
  refine lv_iconst (v := 0) hx hb dX11_count_1 (by decide) ?_
  refine va_put (v := .int 0) (ty := .int) (T := TX11) (N := 35) hx hb hts inX11 tyX11 tyX11_ok nmX11 hown hK hP hD hS 0 rfl rfl 0 (by decide) f85 (fun _ h9 => h9) rfl (by decide +kernel) rfl rfl (Nat.le_of_ble_eq_true rfl) dX11_count_2 (fun H locs hP hD hS => ?_)
  have hP : va_P g.1 vwCl [(m0, .inr (10, [.int 0, .int 0, .int 0, .int (-1), .int 0, .int 0, .int 0, .int 0, .ref fd, .ref rfm, .ref rt_, .ref to_, .ref rw_, .ref wa, .int 0, .ref rk, .ref rb, .ref cn, .ref br, .ref sm, .ref as_, .ref go, .ref sh_, .int 0, .int 1, .int 1, .int 0, .int 0, .int 0, .ref ki, .ref tg, .ref of_, .ref kp, .int 0, .ref rs]))] H := hP
  have hD : va_D A [(m0, .inr (10, [.int 0, .int 0, .int 0, .int (-1), .int 0, .int 0, .int 0, .int 0, .ref fd, .ref rfm, .ref rt_, .ref to_, .ref rw_, .ref wa, .int 0, .ref rk, .ref rb, .ref cn, .ref br, .ref sm, .ref as_, .ref go, .ref sh_, .int 0, .int 1, .int 1, .int 0, .int 0, .int 0, .ref ki, .ref tg, .ref of_, .ref kp, .int 0, .ref rs]))] := hD
  refine lv_iload_n hx hb dX11_count_5 rfl (lv_at hl 1 rfl) ?_
  refine lv_if_ne (tgt := 16) hx hb dX11_count_6 (by decide) (fun c_1 => ?_) (fun c_1 => ?_)
  · exact absurd (by decide) c_1
  · refine lv_aload_n hx hb dX11_count_9 rfl (lv_at hl 0 rfl) ?_
    refine va_get (v := .int 0) (T := TX11) (N := 35) hx hb hts inX11 hown hK hP 0 rfl rfl 27 (by decide) f168 (fun _ h9 => h9) rfl dX11_count_10 ?_
    refine lv_goto (tgt := 41) hx hb dX11_count_13 (by decide) ?_
    exact he_ri hQ hx hb hr hlk hP hD hS dX11_count_41 (Nat.le_of_ble_eq_true rfl) (Nat.le_of_ble_eq_true rfl) (()) (rfl) (rfl)
set_option maxHeartbeats 4000000 in
set_option maxRecDepth 100000 in
theorem c_X11_count1 (l : Launch) (g : he_G) (m0 : Nat) (fd : Nat) (rfm : Nat) (rt_ : Nat) (to_ : Nat) (rw_ : Nat) (wa : Nat) (rk : Nat) (rb : Nat) (cn : Nat) (br : Nat) (sm : Nat) (as_ : Nat) (go : Nat) (sh_ : Nat) (ki : Nat) (tg : Nat) (of_ : Nat) (kp : Nat) (rs : Nat)  : he_I l yX11_count wsX11_count 0 0 0 0 g [.ref m0, .int 1] [(m0, .inr (10, [.int 0, .int 0, .int 0, .int (-1), .int 0, .int 0, .int 0, .int 0, .ref fd, .ref rfm, .ref rt_, .ref to_, .ref rw_, .ref wa, .int 0, .ref rk, .ref rb, .ref cn, .ref br, .ref sm, .ref as_, .ref go, .ref sh_, .int 0, .int 1, .int 1, .int 0, .int 0, .int 0, .ref ki, .ref tg, .ref of_, .ref kp, .int 0, .ref rs]))] (fun (r : Int32) (u : Unit) => r = 0) (fun (u : Unit) => [(m0, .inr (10, [.int 0, .int 0, .int 0, .int (-1), .int 0, .int 0, .int 0, .int 0, .ref fd, .ref rfm, .ref rt_, .ref to_, .ref rw_, .ref wa, .int 0, .ref rk, .ref rb, .ref cn, .ref br, .ref sm, .ref as_, .ref go, .ref sh_, .int 0, .int 1, .int 1, .int 0, .int 0, .int 0, .ref ki, .ref tg, .ref of_, .ref kp, .int 0, .ref rs]))]) := by
  refine he_begin (l := l) (g := g) (y := yX11_count) (wl := wsX11_count) (fr := 0) (lo := 0) (mc := 0) (ms := 0) (av := [.ref m0, .int 1]) (ws := [(m0, .inr (10, [.int 0, .int 0, .int 0, .int (-1), .int 0, .int 0, .int 0, .int 0, .ref fd, .ref rfm, .ref rt_, .ref to_, .ref rw_, .ref wa, .int 0, .ref rk, .ref rb, .ref cn, .ref br, .ref sm, .ref as_, .ref go, .ref sh_, .int 0, .int 1, .int 1, .int 0, .int 0, .int 0, .ref ki, .ref tg, .ref of_, .ref kp, .int 0, .ref rs]))]) (cc := cX11_count) (maxL := 2) (ret := (some .int)) (fun A => va_Qi (fun (r : Int32) (u : Unit) => r = 0) (fun u t => he_post g A ((fun (u : Unit) => [(m0, .inr (10, [.int 0, .int 0, .int 0, .int (-1), .int 0, .int 0, .int 0, .int 0, .ref fd, .ref rfm, .ref rt_, .ref to_, .ref rw_, .ref wa, .int 0, .ref rk, .ref rb, .ref cn, .ref br, .ref sm, .ref as_, .ref go, .ref sh_, .int 0, .int 1, .int 1, .int 0, .int 0, .int 0, .ref ki, .ref tg, .ref of_, .ref kp, .int 0, .ref rs]))]) u) t) A) (by decide) rfl (Nat.le_of_ble_eq_true rfl) ?_
  intro p e s m args below meth c A ls H locs Q hQ hB
  obtain ⟨hx, hb, hr, hml, hown, hts, hlk, hin, hP, hK, hD, hS, hA, hE, hl⟩ := hB
  have hl : lv_has ls 2 [(0, .ref m0), (1, .int 1)] := hl
  have f85 := hts (.fieldLink RX11 85 "HiredEnemyModel" "thrown" "I") (by decide +kernel)
  have inX11 : ∀ w ∈ wsX110, w ∈ wsX11_count := by decide +kernel
  have f88 := hts (.fieldLink RX11 88 "HiredEnemyModel" "tape" "I") (by decide +kernel)
  refine lv_aload_n hx hb dX11_count_0 rfl (lv_at hl 0 rfl) ?_
  refine lv_iconst (v := 0) hx hb dX11_count_1 (by decide) ?_
  refine va_put (v := .int 0) (ty := .int) (T := TX11) (N := 35) hx hb hts inX11 tyX11 tyX11_ok nmX11 hown hK hP hD hS 0 rfl rfl 0 (by decide) f85 (fun _ h9 => h9) rfl (by decide +kernel) rfl rfl (Nat.le_of_ble_eq_true rfl) dX11_count_2 (fun H locs hP hD hS => ?_)
  have hP : va_P g.1 vwCl [(m0, .inr (10, [.int 0, .int 0, .int 0, .int (-1), .int 0, .int 0, .int 0, .int 0, .ref fd, .ref rfm, .ref rt_, .ref to_, .ref rw_, .ref wa, .int 0, .ref rk, .ref rb, .ref cn, .ref br, .ref sm, .ref as_, .ref go, .ref sh_, .int 0, .int 1, .int 1, .int 0, .int 0, .int 0, .ref ki, .ref tg, .ref of_, .ref kp, .int 0, .ref rs]))] H := hP
  have hD : va_D A [(m0, .inr (10, [.int 0, .int 0, .int 0, .int (-1), .int 0, .int 0, .int 0, .int 0, .ref fd, .ref rfm, .ref rt_, .ref to_, .ref rw_, .ref wa, .int 0, .ref rk, .ref rb, .ref cn, .ref br, .ref sm, .ref as_, .ref go, .ref sh_, .int 0, .int 1, .int 1, .int 0, .int 0, .int 0, .ref ki, .ref tg, .ref of_, .ref kp, .int 0, .ref rs]))] := hD
  refine lv_iload_n hx hb dX11_count_5 rfl (lv_at hl 1 rfl) ?_
  refine lv_if_ne (tgt := 16) hx hb dX11_count_6 (by decide) (fun c_1 => ?_) (fun c_1 => ?_)
  · refine lv_iload_n hx hb dX11_count_16 rfl (lv_at hl 1 rfl) ?_
    refine lv_iconst (v := 1) hx hb dX11_count_17 (by decide) ?_
    refine lv_icmp_ne (tgt := 28) hx hb dX11_count_18 (by decide) (fun c_2 => ?_) (fun c_2 => ?_)
    · exact absurd (by decide) c_2
    · refine lv_aload_n hx hb dX11_count_21 rfl (lv_at hl 0 rfl) ?_
      refine va_get (v := .int 0) (T := TX11) (N := 35) hx hb hts inX11 hown hK hP 0 rfl rfl 1 (by decide) f88 (fun _ h9 => h9) rfl dX11_count_22 ?_
      refine lv_goto (tgt := 41) hx hb dX11_count_25 (by decide) ?_
      exact he_ri hQ hx hb hr hlk hP hD hS dX11_count_41 (Nat.le_of_ble_eq_true rfl) (Nat.le_of_ble_eq_true rfl) (()) (rfl) (rfl)
  · exact absurd c_1 (by decide)
set_option maxHeartbeats 4000000 in
set_option maxRecDepth 100000 in
theorem c_X11_count2 (l : Launch) (g : he_G) (m0 : Nat) (fd : Nat) (rfm : Nat) (rt_ : Nat) (to_ : Nat) (rw_ : Nat) (wa : Nat) (rk : Nat) (rb : Nat) (cn : Nat) (br : Nat) (sm : Nat) (as_ : Nat) (go : Nat) (sh_ : Nat) (ki : Nat) (tg : Nat) (of_ : Nat) (kp : Nat) (rs : Nat)  : he_I l yX11_count wsX11_count 0 0 0 0 g [.ref m0, .int 2] [(m0, .inr (10, [.int 0, .int 0, .int 0, .int (-1), .int 0, .int 0, .int 0, .int 0, .ref fd, .ref rfm, .ref rt_, .ref to_, .ref rw_, .ref wa, .int 0, .ref rk, .ref rb, .ref cn, .ref br, .ref sm, .ref as_, .ref go, .ref sh_, .int 0, .int 1, .int 1, .int 0, .int 0, .int 0, .ref ki, .ref tg, .ref of_, .ref kp, .int 0, .ref rs]))] (fun (r : Int32) (u : Unit) => r = 0) (fun (u : Unit) => [(m0, .inr (10, [.int 0, .int 0, .int 0, .int (-1), .int 0, .int 0, .int 0, .int 0, .ref fd, .ref rfm, .ref rt_, .ref to_, .ref rw_, .ref wa, .int 0, .ref rk, .ref rb, .ref cn, .ref br, .ref sm, .ref as_, .ref go, .ref sh_, .int 0, .int 1, .int 1, .int 0, .int 0, .int 0, .ref ki, .ref tg, .ref of_, .ref kp, .int 0, .ref rs]))]) := by
  refine he_begin (l := l) (g := g) (y := yX11_count) (wl := wsX11_count) (fr := 0) (lo := 0) (mc := 0) (ms := 0) (av := [.ref m0, .int 2]) (ws := [(m0, .inr (10, [.int 0, .int 0, .int 0, .int (-1), .int 0, .int 0, .int 0, .int 0, .ref fd, .ref rfm, .ref rt_, .ref to_, .ref rw_, .ref wa, .int 0, .ref rk, .ref rb, .ref cn, .ref br, .ref sm, .ref as_, .ref go, .ref sh_, .int 0, .int 1, .int 1, .int 0, .int 0, .int 0, .ref ki, .ref tg, .ref of_, .ref kp, .int 0, .ref rs]))]) (cc := cX11_count) (maxL := 2) (ret := (some .int)) (fun A => va_Qi (fun (r : Int32) (u : Unit) => r = 0) (fun u t => he_post g A ((fun (u : Unit) => [(m0, .inr (10, [.int 0, .int 0, .int 0, .int (-1), .int 0, .int 0, .int 0, .int 0, .ref fd, .ref rfm, .ref rt_, .ref to_, .ref rw_, .ref wa, .int 0, .ref rk, .ref rb, .ref cn, .ref br, .ref sm, .ref as_, .ref go, .ref sh_, .int 0, .int 1, .int 1, .int 0, .int 0, .int 0, .ref ki, .ref tg, .ref of_, .ref kp, .int 0, .ref rs]))]) u) t) A) (by decide) rfl (Nat.le_of_ble_eq_true rfl) ?_
  intro p e s m args below meth c A ls H locs Q hQ hB
  obtain ⟨hx, hb, hr, hml, hown, hts, hlk, hin, hP, hK, hD, hS, hA, hE, hl⟩ := hB
  have hl : lv_has ls 2 [(0, .ref m0), (1, .int 2)] := hl
  have f85 := hts (.fieldLink RX11 85 "HiredEnemyModel" "thrown" "I") (by decide +kernel)
  have inX11 : ∀ w ∈ wsX110, w ∈ wsX11_count := by decide +kernel
  have f165 := hts (.fieldLink RX11 165 "HiredEnemyModel" "things" "I") (by decide +kernel)
  refine lv_aload_n hx hb dX11_count_0 rfl (lv_at hl 0 rfl) ?_
  refine lv_iconst (v := 0) hx hb dX11_count_1 (by decide) ?_
  refine va_put (v := .int 0) (ty := .int) (T := TX11) (N := 35) hx hb hts inX11 tyX11 tyX11_ok nmX11 hown hK hP hD hS 0 rfl rfl 0 (by decide) f85 (fun _ h9 => h9) rfl (by decide +kernel) rfl rfl (Nat.le_of_ble_eq_true rfl) dX11_count_2 (fun H locs hP hD hS => ?_)
  have hP : va_P g.1 vwCl [(m0, .inr (10, [.int 0, .int 0, .int 0, .int (-1), .int 0, .int 0, .int 0, .int 0, .ref fd, .ref rfm, .ref rt_, .ref to_, .ref rw_, .ref wa, .int 0, .ref rk, .ref rb, .ref cn, .ref br, .ref sm, .ref as_, .ref go, .ref sh_, .int 0, .int 1, .int 1, .int 0, .int 0, .int 0, .ref ki, .ref tg, .ref of_, .ref kp, .int 0, .ref rs]))] H := hP
  have hD : va_D A [(m0, .inr (10, [.int 0, .int 0, .int 0, .int (-1), .int 0, .int 0, .int 0, .int 0, .ref fd, .ref rfm, .ref rt_, .ref to_, .ref rw_, .ref wa, .int 0, .ref rk, .ref rb, .ref cn, .ref br, .ref sm, .ref as_, .ref go, .ref sh_, .int 0, .int 1, .int 1, .int 0, .int 0, .int 0, .ref ki, .ref tg, .ref of_, .ref kp, .int 0, .ref rs]))] := hD
  refine lv_iload_n hx hb dX11_count_5 rfl (lv_at hl 1 rfl) ?_
  refine lv_if_ne (tgt := 16) hx hb dX11_count_6 (by decide) (fun c_1 => ?_) (fun c_1 => ?_)
  · refine lv_iload_n hx hb dX11_count_16 rfl (lv_at hl 1 rfl) ?_
    refine lv_iconst (v := 1) hx hb dX11_count_17 (by decide) ?_
    refine lv_icmp_ne (tgt := 28) hx hb dX11_count_18 (by decide) (fun c_2 => ?_) (fun c_2 => ?_)
    · refine lv_iload_n hx hb dX11_count_28 rfl (lv_at hl 1 rfl) ?_
      refine lv_iconst (v := 2) hx hb dX11_count_29 (by decide) ?_
      refine lv_icmp_ne (tgt := 40) hx hb dX11_count_30 (by decide) (fun c_3 => ?_) (fun c_3 => ?_)
      · exact absurd (by decide) c_3
      · refine lv_aload_n hx hb dX11_count_33 rfl (lv_at hl 0 rfl) ?_
        refine va_get (v := .int 0) (T := TX11) (N := 35) hx hb hts inX11 hown hK hP 0 rfl rfl 26 (by decide) f165 (fun _ h9 => h9) rfl dX11_count_34 ?_
        refine lv_goto (tgt := 41) hx hb dX11_count_37 (by decide) ?_
        exact he_ri hQ hx hb hr hlk hP hD hS dX11_count_41 (Nat.le_of_ble_eq_true rfl) (Nat.le_of_ble_eq_true rfl) (()) (rfl) (rfl)
    · exact absurd c_2 (by decide)
  · exact absurd c_1 (by decide)
set_option maxHeartbeats 4000000 in
set_option maxRecDepth 100000 in
theorem c_X11_countN (l : Launch) (g : he_G) (m0 : Nat) (fd : Nat) (rfm : Nat) (rt_ : Nat) (to_ : Nat) (rw_ : Nat) (wa : Nat) (rk : Nat) (rb : Nat) (cn : Nat) (br : Nat) (sm : Nat) (as_ : Nat) (go : Nat) (sh_ : Nat) (ki : Nat) (tg : Nat) (of_ : Nat) (kp : Nat) (rs : Nat) (x : Int32) (hc0 : ¬ x = 0) (hc1 : ¬ x = 1) (hc2 : ¬ x = 2) : he_I l yX11_count wsX11_count 0 0 0 0 g [.ref m0, .int x] [(m0, .inr (10, [.int 0, .int 0, .int 0, .int (-1), .int 0, .int 0, .int 0, .int 0, .ref fd, .ref rfm, .ref rt_, .ref to_, .ref rw_, .ref wa, .int 0, .ref rk, .ref rb, .ref cn, .ref br, .ref sm, .ref as_, .ref go, .ref sh_, .int 0, .int 1, .int 1, .int 0, .int 0, .int 0, .ref ki, .ref tg, .ref of_, .ref kp, .int 0, .ref rs]))] (fun (r : Int32) (u : Unit) => r = (-1)) (fun (u : Unit) => [(m0, .inr (10, [.int 0, .int 0, .int 0, .int (-1), .int 0, .int 0, .int 0, .int 0, .ref fd, .ref rfm, .ref rt_, .ref to_, .ref rw_, .ref wa, .int 0, .ref rk, .ref rb, .ref cn, .ref br, .ref sm, .ref as_, .ref go, .ref sh_, .int 0, .int 1, .int 1, .int 0, .int 0, .int 0, .ref ki, .ref tg, .ref of_, .ref kp, .int 0, .ref rs]))]) := by
  refine he_begin (l := l) (g := g) (y := yX11_count) (wl := wsX11_count) (fr := 0) (lo := 0) (mc := 0) (ms := 0) (av := [.ref m0, .int x]) (ws := [(m0, .inr (10, [.int 0, .int 0, .int 0, .int (-1), .int 0, .int 0, .int 0, .int 0, .ref fd, .ref rfm, .ref rt_, .ref to_, .ref rw_, .ref wa, .int 0, .ref rk, .ref rb, .ref cn, .ref br, .ref sm, .ref as_, .ref go, .ref sh_, .int 0, .int 1, .int 1, .int 0, .int 0, .int 0, .ref ki, .ref tg, .ref of_, .ref kp, .int 0, .ref rs]))]) (cc := cX11_count) (maxL := 2) (ret := (some .int)) (fun A => va_Qi (fun (r : Int32) (u : Unit) => r = (-1)) (fun u t => he_post g A ((fun (u : Unit) => [(m0, .inr (10, [.int 0, .int 0, .int 0, .int (-1), .int 0, .int 0, .int 0, .int 0, .ref fd, .ref rfm, .ref rt_, .ref to_, .ref rw_, .ref wa, .int 0, .ref rk, .ref rb, .ref cn, .ref br, .ref sm, .ref as_, .ref go, .ref sh_, .int 0, .int 1, .int 1, .int 0, .int 0, .int 0, .ref ki, .ref tg, .ref of_, .ref kp, .int 0, .ref rs]))]) u) t) A) (by decide) rfl (Nat.le_of_ble_eq_true rfl) ?_
  intro p e s m args below meth c A ls H locs Q hQ hB
  obtain ⟨hx, hb, hr, hml, hown, hts, hlk, hin, hP, hK, hD, hS, hA, hE, hl⟩ := hB
  have hl : lv_has ls 2 [(0, .ref m0), (1, .int x)] := hl
  have f85 := hts (.fieldLink RX11 85 "HiredEnemyModel" "thrown" "I") (by decide +kernel)
  have inX11 : ∀ w ∈ wsX110, w ∈ wsX11_count := by decide +kernel
  refine lv_aload_n hx hb dX11_count_0 rfl (lv_at hl 0 rfl) ?_
  refine lv_iconst (v := 0) hx hb dX11_count_1 (by decide) ?_
  refine va_put (v := .int 0) (ty := .int) (T := TX11) (N := 35) hx hb hts inX11 tyX11 tyX11_ok nmX11 hown hK hP hD hS 0 rfl rfl 0 (by decide) f85 (fun _ h9 => h9) rfl (by decide +kernel) rfl rfl (Nat.le_of_ble_eq_true rfl) dX11_count_2 (fun H locs hP hD hS => ?_)
  have hP : va_P g.1 vwCl [(m0, .inr (10, [.int 0, .int 0, .int 0, .int (-1), .int 0, .int 0, .int 0, .int 0, .ref fd, .ref rfm, .ref rt_, .ref to_, .ref rw_, .ref wa, .int 0, .ref rk, .ref rb, .ref cn, .ref br, .ref sm, .ref as_, .ref go, .ref sh_, .int 0, .int 1, .int 1, .int 0, .int 0, .int 0, .ref ki, .ref tg, .ref of_, .ref kp, .int 0, .ref rs]))] H := hP
  have hD : va_D A [(m0, .inr (10, [.int 0, .int 0, .int 0, .int (-1), .int 0, .int 0, .int 0, .int 0, .ref fd, .ref rfm, .ref rt_, .ref to_, .ref rw_, .ref wa, .int 0, .ref rk, .ref rb, .ref cn, .ref br, .ref sm, .ref as_, .ref go, .ref sh_, .int 0, .int 1, .int 1, .int 0, .int 0, .int 0, .ref ki, .ref tg, .ref of_, .ref kp, .int 0, .ref rs]))] := hD
  refine lv_iload_n hx hb dX11_count_5 rfl (lv_at hl 1 rfl) ?_
  refine lv_if_ne (tgt := 16) hx hb dX11_count_6 (by decide) (fun c_1 => ?_) (fun c_1 => ?_)
  · refine lv_iload_n hx hb dX11_count_16 rfl (lv_at hl 1 rfl) ?_
    refine lv_iconst (v := 1) hx hb dX11_count_17 (by decide) ?_
    refine lv_icmp_ne (tgt := 28) hx hb dX11_count_18 (by decide) (fun c_2 => ?_) (fun c_2 => ?_)
    · refine lv_iload_n hx hb dX11_count_28 rfl (lv_at hl 1 rfl) ?_
      refine lv_iconst (v := 2) hx hb dX11_count_29 (by decide) ?_
      refine lv_icmp_ne (tgt := 40) hx hb dX11_count_30 (by decide) (fun c_3 => ?_) (fun c_3 => ?_)
      · refine lv_iconst (v := (-1)) hx hb dX11_count_40 (by decide) ?_
        exact he_ri hQ hx hb hr hlk hP hD hS dX11_count_41 (Nat.le_of_ble_eq_true rfl) (Nat.le_of_ble_eq_true rfl) (()) (rfl) (rfl)
      · exact absurd c_3 hc2
    · exact absurd c_2 hc1
  · exact absurd c_1 hc0
