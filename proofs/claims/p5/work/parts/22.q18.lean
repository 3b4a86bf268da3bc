theorem lp_meas5 {f1 f2 : Int32} {c1 c2 n9 : Nat} (h1 : f1 = 0) (h : ¬ f2 = 0 ∨ c2 = c1 + 1) (hc : c2 ≤ 20) (hc1 : c1 ≤ 20) (hm : (if f1 = 0 then 21 - c1 else 0) < n9 + 1) : (if f2 = 0 then 21 - c2 else 0) < n9 := by
  rw [if_pos h1] at hm
  split
  · rename_i h9
    have h8 := h.resolve_left (fun h7 => h7 h9)
    omega
  · omega
/-- a rule on, the text's rest says what it said -/
theorem ct_D {T : Nat → Nat} {n k k2 c c2 v w : Nat} {g f2 g2 : Int32} {A : Option (Nat × Nat)} {rk rk2 rb rb2 RK RB : Nat → Int32} (hlt : k < n) (hbl : rn isBl T n k = k) (hg : g = -1) (hX1 : (txP T n wl5 (bd5 v) (fun b _ => fl5 b) (21 - c) c w k).1 = A) (hXd : fdRl (txP T n wl5 (bd5 v) (fun b _ => fl5 b) (21 - c) c w k).2 rk = RK) (hXb : fdB (txP T n wl5 (bd5 v) (fun b _ => fl5 b) (21 - c) c w k).2 rb = RB) (hc : c ≤ 20) (hk2 : k2 ≤ n)
    (h : (∃ c9 p9, (ptS T n wl5 (bd5 v) (fl5 c) k).1 = some (c9, p9) ∧ f2 = nI c9 ∧ g2 = nI p9) ∨ (∃ q9 vs, (ptS T n wl5 (bd5 v) (fl5 c) k).1 = none ∧ (ptS T n wl5 (bd5 v) (fl5 c) k).2.2 = some (q9, vs) ∧ k2 = (ptS T n wl5 (bd5 v) (fl5 c) k).2.1 ∧ f2 = 0 ∧ g2 = g ∧ c2 = c + 1 ∧ rk2 = rlD q9 vs rk ∧ rb2 = rlB q9 vs rb)) :
    ((∃ w2 : Nat, f2 = 0 ∧ g2 = -1 ∧ rn isBl T n (rn isBl T n k2) = rn isBl T n k2 ∧ (txP T n wl5 (bd5 v) (fun b _ => fl5 b) (21 - c2) c2 w2 (rn isBl T n k2)).1 = A ∧ fdRl (txP T n wl5 (bd5 v) (fun b _ => fl5 b) (21 - c2) c2 w2 (rn isBl T n k2)).2 rk2 = RK ∧ fdB (txP T n wl5 (bd5 v) (fun b _ => fl5 b) (21 - c2) c2 w2 (rn isBl T n k2)).2 rb2 = RB) ∨ (¬ f2 = 0 ∧ f2 = faC A ∧ g2 = faP A)) ∧ (¬ f2 = 0 ∨ c2 = c + 1) := by
  have hl2 : rn isBl T n k < n := by rw [hbl]; exact hlt
  rw [tx_s c 21 (by omega)] at hX1 hXd hXb
  rcases h with ⟨c9, p9, hp1, hf, hp⟩ | ⟨q9, vs, hp1, hp2, hk9, hf, hp, hc9, hr9, hb9⟩
  · have hz := pt_f0 hp1
    have hne : ¬ f2 = 0 := by
      rw [hf]
      rcases (show c9 = 1 ∨ c9 = 2 ∨ c9 = 3 by omega) with rfl | rfl | rfl <;> decide
    have e9 := tx_f (wl := wl5) (bd := bd5 v) (full := fun b _ => fl5 b) (b := c) (w := w) (f := 21 - (c + 1)) hl2 (by rw [hbl]; exact hp1)
    rw [e9] at hX1
    exact ⟨Or.inr ⟨hne, by rw [← hX1]; exact hf, by rw [← hX1]; exact hp⟩, Or.inl hne⟩
  · have e9 := tx_o (wl := wl5) (bd := bd5 v) (full := fun b _ => fl5 b) (b := c) (w := w) (f := 21 - (c + 1)) hl2 (by rw [hbl]; exact hp1) (by rw [hbl]; exact hp2)
    rw [hbl, ← hk9] at e9
    rw [e9] at hX1 hXd hXb
    refine ⟨Or.inl ⟨stW q9 w, hf, hp.trans hg, rn_id isBl hk2, ?_, ?_, ?_⟩, Or.inr hc9⟩
    · rw [tx_b hk2, hc9]; exact hX1
    · rw [tx_b hk2, hc9, hr9]; exact hXd
    · rw [tx_b hk2, hc9, hb9]; exact hXb
set_option maxHeartbeats 4000000 in
set_option maxRecDepth 100000 in
theorem q_X11_feed (l : Launch) (g : he_G) (m0 : Nat) (fd : Nat) (rfm : Nat) (rt_ : Nat) (to_ : Nat) (rw_ : Nat) (wa : Nat) (rk : Nat) (rb : Nat) (cn : Nat) (br : Nat) (sm : Nat) (as_ : Nat) (go : Nat) (sh_ : Nat) (ki : Nat) (tg : Nat) (of_ : Nat) (kp : Nat) (rs : Nat) (sz_ : Int32) (pl : Int32) (at_ : Int32) (fa : Int32) (fw : Int32) (cs : Int32) (ct : Int32) (ir : Int32) (oa : Int32) (ob : Int32) (th : Int32) (ig : Int32) (sp_ : Int32) (sf : Int32) (tw : Int32) (k : Nat) (f : Nat → Int32) (v1 : Int32) (v2 : Int32) (v3 : Int32) (v4 : Int32) (v5 : Int32) (T : Nat → Nat) (hk : k + 20 ≤ 500) (hT : ∀ i, i < k → f i = nI (T i)) : he_I l yX11_feed wsX11_feed 0 0 0 0 g [.ref m0, .int v1, .int v2, .int v3, .int v4, .int v5] [(oX11 m0 tw (nI k) sz_ pl at_ fa fw cs fd rfm rt_ to_ rw_ wa ct rk rb cn br sm as_ go sh_ ir oa ob th ig sp_ ki tg of_ kp sf rs), (aI g fd 500 f)] (fun (r : Int32) (u : Nat → Int32) => r = nI (k + 20) ∧ (∀ i, i < k + 20 → u i = nI (pnT5 T k v1 v2 v3 v4 v5 i))) (fun (u : Nat → Int32) => [(oX11 m0 0 (nI (k + 20)) sz_ pl at_ fa fw cs fd rfm rt_ to_ rw_ wa ct rk rb cn br sm as_ go sh_ ir oa ob th ig sp_ ki tg of_ kp sf rs), (aI g fd 500 u)]) := by
  refine he_begin (l := l) (g := g) (y := yX11_feed) (wl := wsX11_feed) (fr := 0) (lo := 0) (mc := 0) (ms := 0) (av := [.ref m0, .int v1, .int v2, .int v3, .int v4, .int v5]) (ws := [(oX11 m0 tw (nI k) sz_ pl at_ fa fw cs fd rfm rt_ to_ rw_ wa ct rk rb cn br sm as_ go sh_ ir oa ob th ig sp_ ki tg of_ kp sf rs), (aI g fd 500 f)]) (cc := cX11_feed) (maxL := 8) (ret := (some .int)) (fun A => va_Qi (fun (r : Int32) (u : Nat → Int32) => r = nI (k + 20) ∧ (∀ i, i < k + 20 → u i = nI (pnT5 T k v1 v2 v3 v4 v5 i))) (fun u t => he_post g A ((fun (u : Nat → Int32) => [(oX11 m0 0 (nI (k + 20)) sz_ pl at_ fa fw cs fd rfm rt_ to_ rw_ wa ct rk rb cn br sm as_ go sh_ ir oa ob th ig sp_ ki tg of_ kp sf rs), (aI g fd 500 u)]) u) t) A) (by decide) rfl (Nat.le_of_ble_eq_true rfl) ?_
  intro p e s m args below meth c A ls H locs Q hQ hB
  obtain ⟨hx, hb, hr, hml, hown, hts, hlk, hin, hP, hK, hD, hS, hA, hE, hl⟩ := hB
  have hl : lv_has ls 8 [(0, .ref m0), (1, .int v1), (2, .int v2), (3, .int v3), (4, .int v4), (5, .int v5)] := hl
  have f85 := hts (.fieldLink RX11 85 "HiredEnemyModel" "thrown" "I") (iwoX11_feed (k := 0) rfl)
  have inX11 : ∀ w ∈ wsX110, w ∈ wsX11_feed := innX11_feed_X11
  have f88 := hts (.fieldLink RX11 88 "HiredEnemyModel" "tape" "I") (iwoX11_feed (k := 1) rfl)
  have f13 := hts (.fieldLink RX11 13 "HiredEnemyModel" "fed" "[I") (iwoX11_feed (k := 2) rfl)
  refine lv_aload_n hx hb dX11_feed_0 rfl (lv_at hl 0 rfl) ?_
  refine lv_iconst (v := 0) hx hb dX11_feed_1 (by decide) ?_
  refine va_put (v := .int 0) (ty := .int) (T := TX11) (N := 35) hx hb hts inX11 tyX11 tyX11_ok nmX11 hown hK hP hD hS 0 rfl rfl 0 (by decide) f85 (fun _ h9 => h9) rfl (by decide +kernel) rfl rfl (Nat.le_of_ble_eq_true rfl) dX11_feed_2 (fun H locs hP hD hS => ?_)
  have hP : va_P g.1 vwCl [(oX11 m0 0 (nI k) sz_ pl at_ fa fw cs fd rfm rt_ to_ rw_ wa ct rk rb cn br sm as_ go sh_ ir oa ob th ig sp_ ki tg of_ kp sf rs), (aI g fd 500 f)] H := hP
  have hD : va_D A [(oX11 m0 0 (nI k) sz_ pl at_ fa fw cs fd rfm rt_ to_ rw_ wa ct rk rb cn br sm as_ go sh_ ir oa ob th ig sp_ ki tg of_ kp sf rs), (aI g fd 500 f)] := hD
  refine lv_aload_n hx hb dX11_feed_5 rfl (lv_at hl 0 rfl) ?_
  refine va_get (v := .int (nI k)) (T := TX11) (N := 35) hx hb hts inX11 hown hK hP 0 rfl rfl 1 (by decide) f88 (fun _ h9 => h9) rfl dX11_feed_6 ?_
  refine lv_bipush (v := 20) hx hb dX11_feed_9 (by decide) ?_
  refine lv_iadd hx hb dX11_feed_11 ?_
  refine he_top (nI (k + 20)) (nI_add k 20) ?_
  refine lv_sipush (v := 500) hx hb dX11_feed_12 (by decide) ?_
  refine lv_icmp_le (tgt := 20) hx hb dX11_feed_15 (by decide) (fun c_1 => ?_) (fun c_1 => ?_)
  · refine lv_iconst (v := 0) hx hb dX11_feed_20 (by decide) ?_
    refine lv_istore (lv' := [(6, .int 0), (0, .ref m0), (1, .int v1), (2, .int v2), (3, .int v3), (4, .int v4), (5, .int v5)]) hx hb dX11_feed_21 hl (by decide) rfl (fun ls hl => ?_)
    have loop23 : ∀ (n9 : Nat) (j : Nat) (cj : Nat → Int32), 20 - j < n9 → (j ≤ 20) → (∀ i, i < k + j → cj i = nI (pnT5 T k v1 v2 v3 v4 v5 i)) → ∀ (H : Heap) (locs : List Loc) (ls : Array Slot), va_P g.1 vwCl [(oX11 m0 0 (nI (k + j)) sz_ pl at_ fa fw cs fd rfm rt_ to_ rw_ wa ct rk rb cn br sm as_ go sh_ ir oa ob th ig sp_ ki tg of_ kp sf rs), (aI g fd 500 cj)] H → va_D A [(oX11 m0 0 (nI (k + j)) sz_ pl at_ fa fw cs fd rfm rt_ to_ rw_ wa ct rk rb cn br sm as_ go sh_ ir oa ob th ig sp_ ki tg of_ kp sf rs), (aI g fd 500 cj)] → va_S A s.heap H locs → lv_has ls 8 [(0, .ref m0), (1, .int v1), (2, .int v2), (3, .int v3), (4, .int v4), (5, .int v5), (6, .int (nI j))] → W p l e (he_room 0 0 0 0) s m args below meth c H locs 0 0 Q (F0 m 23 ls []) := by
      intro n9
      induction n9 with
      | zero => intro j cj hm9; exact absurd hm9 (Nat.not_lt_zero _)
      | succ n9 ih23 =>
        intro j cj hm9 hj hcj H locs ls hP hD hS hl
        refine lv_iload hx hb dX11_feed_23 (lv_at hl 6 rfl) ?_
        refine lv_bipush (v := 20) hx hb dX11_feed_25 (by decide) ?_
        refine lv_icmp_ge (tgt := 120) hx hb dX11_feed_27 (by decide) (fun c_2 => ?_) (fun c_2 => ?_)
        · have k_3 : 20 ≤ j := (he_cle (a := 20) (b := j) (by decide) rfl (by omega) (by omega)).mp c_2
          obtain rfl : j = 20 := by omega
          refine lv_aload_n hx hb dX11_feed_120 rfl (lv_at hl 0 rfl) ?_
          refine va_get (v := .int (nI (k + 20))) (T := TX11) (N := 35) hx hb hts inX11 hown hK hP 0 rfl rfl 1 (by decide) f88 (fun _ h9 => h9) rfl dX11_feed_121 ?_
          exact he_ri hQ hx hb hr hlk hP hD hS dX11_feed_124 (Nat.le_of_ble_eq_true rfl) (Nat.le_of_ble_eq_true rfl) (cj) (rfl) (⟨rfl, hcj⟩)
        · have k_4 : ¬ (20 ≤ j) := fun h9 => c_2 ((he_cle (a := 20) (b := j) (by decide) rfl (by omega) (by omega)).mpr h9)
          refine lv_iload hx hb dX11_feed_30 (lv_at hl 6 rfl) ?_
          refine lv_iconst (v := 4) hx hb dX11_feed_32 (by decide) ?_
          refine lv_icmp_ge (tgt := 40) hx hb dX11_feed_33 (by decide) (fun c_5 => ?_) (fun c_5 => ?_)
          · have k_6 : 4 ≤ j := (he_cle (a := 4) (b := j) (by decide) rfl (by omega) (by omega)).mp c_5
            refine lv_iload hx hb dX11_feed_40 (lv_at hl 6 rfl) ?_
            refine lv_bipush (v := 8) hx hb dX11_feed_42 (by decide) ?_
            refine lv_icmp_ge (tgt := 51) hx hb dX11_feed_44 (by decide) (fun c_7 => ?_) (fun c_7 => ?_)
            · have k_8 : 8 ≤ j := (he_cle (a := 8) (b := j) (by decide) rfl (by omega) (by omega)).mp c_7
              refine lv_iload hx hb dX11_feed_51 (lv_at hl 6 rfl) ?_
              refine lv_bipush (v := 12) hx hb dX11_feed_53 (by decide) ?_
              refine lv_icmp_ge (tgt := 62) hx hb dX11_feed_55 (by decide) (fun c_9 => ?_) (fun c_9 => ?_)
              · have k_10 : 12 ≤ j := (he_cle (a := 12) (b := j) (by decide) rfl (by omega) (by omega)).mp c_9
                refine lv_iload hx hb dX11_feed_62 (lv_at hl 6 rfl) ?_
                refine lv_bipush (v := 16) hx hb dX11_feed_64 (by decide) ?_
                refine lv_icmp_ge (tgt := 74) hx hb dX11_feed_66 (by decide) (fun c_11 => ?_) (fun c_11 => ?_)
                · have k_12 : 16 ≤ j := (he_cle (a := 16) (b := j) (by decide) rfl (by omega) (by omega)).mp c_11
                  refine lv_iload hx hb dX11_feed_74 (lv_at hl 5 rfl) ?_
                  refine lv_istore (lv' := [(7, .int v5), (0, .ref m0), (1, .int v1), (2, .int v2), (3, .int v3), (4, .int v4), (5, .int v5), (6, .int (nI j))]) hx hb dX11_feed_76 hl (by decide) rfl (fun ls hl => ?_)
                  refine lv_aload_n hx hb dX11_feed_78 rfl (lv_at hl 1 rfl) ?_
                  refine va_get (v := .ref fd) (T := TX11) (N := 35) hx hb hts inX11 hown hK hP 0 rfl rfl 8 (by decide) f13 (fun _ h9 => h9) rfl dX11_feed_79 ?_
                  refine lv_aload_n hx hb dX11_feed_82 rfl (lv_at hl 1 rfl) ?_
                  refine va_get (v := .int (nI (k + j))) (T := TX11) (N := 35) hx hb hts inX11 hown hK hP 0 rfl rfl 1 (by decide) f88 (fun _ h9 => h9) rfl dX11_feed_83 ?_
                  refine lv_iload hx hb dX11_feed_86 (lv_at hl 0 rfl) ?_
                  refine lv_bipush (v := 24) hx hb dX11_feed_88 (by decide) ?_
                  refine lv_bipush (v := 8) hx hb dX11_feed_90 (by decide) ?_
                  refine lv_iload hx hb dX11_feed_92 (lv_at hl 7 rfl) ?_
                  refine lv_iconst (v := 4) hx hb dX11_feed_94 (by decide) ?_
                  refine lv_irem hx hb dX11_feed_95 (by decide) ?_
                  refine lv_imul hx hb dX11_feed_96 ?_
                  refine lv_isub hx hb dX11_feed_97 ?_
                  refine lv_ishr hx hb dX11_feed_98 ?_
                  refine lv_sipush (v := 255) hx hb dX11_feed_99 (by decide) ?_
                  refine lv_iand hx hb dX11_feed_102 ?_
                  refine he_iast hx hb hK hP hD hS 1 rfl (k + j) rfl (by first | assumption | decide | omega) (by first | decide | assumption) dX11_feed_103 (fun H locs hP hD hS => ?_)
                  have hP : va_P g.1 vwCl [(oX11 m0 0 (nI (k + j)) sz_ pl at_ fa fw cs fd rfm rt_ to_ rw_ wa ct rk rb cn br sm as_ go sh_ ir oa ob th ig sp_ ki tg of_ kp sf rs), (aI g fd 500 (upd cj (k + j) ((v5 >>> ((24 - (8 * ((nI j) - (nI j) / 4 * 4))) &&& 31)) &&& 255)))] H := hP
                  have hD : va_D A [(oX11 m0 0 (nI (k + j)) sz_ pl at_ fa fw cs fd rfm rt_ to_ rw_ wa ct rk rb cn br sm as_ go sh_ ir oa ob th ig sp_ ki tg of_ kp sf rs), (aI g fd 500 (upd cj (k + j) ((v5 >>> ((24 - (8 * ((nI j) - (nI j) / 4 * 4))) &&& 31)) &&& 255)))] := hD
                  refine lv_aload_n hx hb dX11_feed_104 rfl (lv_at hl 1 rfl) ?_
                  refine lv_dup hx hb dX11_feed_105 rfl ?_
                  refine va_get (v := .int (nI (k + j))) (T := TX11) (N := 35) hx hb hts inX11 hown hK hP 0 rfl rfl 1 (by decide) f88 (fun _ h9 => h9) rfl dX11_feed_106 ?_
                  refine lv_iconst (v := 1) hx hb dX11_feed_109 (by decide) ?_
                  refine lv_iadd hx hb dX11_feed_110 ?_
                  refine he_top (nI (k + j + 1)) (nI_add (k + j) 1) ?_
                  refine va_put (v := .int (nI (k + j + 1))) (ty := .int) (T := TX11) (N := 35) hx hb hts inX11 tyX11 tyX11_ok nmX11 hown hK hP hD hS 0 rfl rfl 1 (by decide) f88 (fun _ h9 => h9) rfl (by decide +kernel) rfl rfl (Nat.le_of_ble_eq_true rfl) dX11_feed_111 (fun H locs hP hD hS => ?_)
                  have hP : va_P g.1 vwCl [(oX11 m0 0 (nI (k + j + 1)) sz_ pl at_ fa fw cs fd rfm rt_ to_ rw_ wa ct rk rb cn br sm as_ go sh_ ir oa ob th ig sp_ ki tg of_ kp sf rs), (aI g fd 500 (upd cj (k + j) ((v5 >>> ((24 - (8 * ((nI j) - (nI j) / 4 * 4))) &&& 31)) &&& 255)))] H := hP
                  have hD : va_D A [(oX11 m0 0 (nI (k + j + 1)) sz_ pl at_ fa fw cs fd rfm rt_ to_ rw_ wa ct rk rb cn br sm as_ go sh_ ir oa ob th ig sp_ ki tg of_ kp sf rs), (aI g fd 500 (upd cj (k + j) ((v5 >>> ((24 - (8 * ((nI j) - (nI j) / 4 * 4))) &&& 31)) &&& 255)))] := hD
                  refine lv_iinc (v := nI (j + 1)) (lv' := [(6, .int (nI (j + 1))), (7, .int v5), (0, .ref m0), (1, .int v1), (2, .int v2), (3, .int v3), (4, .int v4), (5, .int v5)]) hx hb dX11_feed_114 hl (k := 7) rfl (nI_1 j) (by decide) rfl (fun ls hl => ?_)
                  refine lv_goto (tgt := 23) hx hb dX11_feed_117 (by decide) ?_
                  have hP : va_P g.1 vwCl [(oX11 m0 0 (nI (k + (j + 1))) sz_ pl at_ fa fw cs fd rfm rt_ to_ rw_ wa ct rk rb cn br sm as_ go sh_ ir oa ob th ig sp_ ki tg of_ kp sf rs), (aI g fd 500 (upd cj (k + j) ((v5 >>> ((24 - (8 * ((nI j) - (nI j) / 4 * 4))) &&& 31)) &&& 255)))] H := by skip; exact hP
                  have hD : va_D A [(oX11 m0 0 (nI (k + (j + 1))) sz_ pl at_ fa fw cs fd rfm rt_ to_ rw_ wa ct rk rb cn br sm as_ go sh_ ir oa ob th ig sp_ ki tg of_ kp sf rs), (aI g fd 500 (upd cj (k + j) ((v5 >>> ((24 - (8 * ((nI j) - (nI j) / 4 * 4))) &&& 31)) &&& 255)))] := by skip; exact hD
                  exact ih23 (j + 1) (upd cj (k + j) ((v5 >>> ((24 - (8 * ((nI j) - (nI j) / 4 * 4))) &&& 31)) &&& 255)) (by omega) (by omega) (fd_step hcj (fm_5 (by omega) (by omega))) _ _ _ hP hD hS (lv_sub hl [2, 3, 4, 5, 6, 7, 0] rfl)
                · have k_13 : ¬ (16 ≤ j) := fun h9 => c_11 ((he_cle (a := 16) (b := j) (by decide) rfl (by omega) (by omega)).mpr h9)
                  refine lv_iload hx hb dX11_feed_69 (lv_at hl 4 rfl) ?_
                  refine lv_goto (tgt := 76) hx hb dX11_feed_71 (by decide) ?_
                  refine lv_istore (lv' := [(7, .int v4), (0, .ref m0), (1, .int v1), (2, .int v2), (3, .int v3), (4, .int v4), (5, .int v5), (6, .int (nI j))]) hx hb dX11_feed_76 hl (by decide) rfl (fun ls hl => ?_)
                  refine lv_aload_n hx hb dX11_feed_78 rfl (lv_at hl 1 rfl) ?_
                  refine va_get (v := .ref fd) (T := TX11) (N := 35) hx hb hts inX11 hown hK hP 0 rfl rfl 8 (by decide) f13 (fun _ h9 => h9) rfl dX11_feed_79 ?_
                  refine lv_aload_n hx hb dX11_feed_82 rfl (lv_at hl 1 rfl) ?_
                  refine va_get (v := .int (nI (k + j))) (T := TX11) (N := 35) hx hb hts inX11 hown hK hP 0 rfl rfl 1 (by decide) f88 (fun _ h9 => h9) rfl dX11_feed_83 ?_
                  refine lv_iload hx hb dX11_feed_86 (lv_at hl 0 rfl) ?_
                  refine lv_bipush (v := 24) hx hb dX11_feed_88 (by decide) ?_
                  refine lv_bipush (v := 8) hx hb dX11_feed_90 (by decide) ?_
                  refine lv_iload hx hb dX11_feed_92 (lv_at hl 7 rfl) ?_
                  refine lv_iconst (v := 4) hx hb dX11_feed_94 (by decide) ?_
                  refine lv_irem hx hb dX11_feed_95 (by decide) ?_
                  refine lv_imul hx hb dX11_feed_96 ?_
                  refine lv_isub hx hb dX11_feed_97 ?_
                  refine lv_ishr hx hb dX11_feed_98 ?_
                  refine lv_sipush (v := 255) hx hb dX11_feed_99 (by decide) ?_
                  refine lv_iand hx hb dX11_feed_102 ?_
                  refine he_iast hx hb hK hP hD hS 1 rfl (k + j) rfl (by first | assumption | decide | omega) (by first | decide | assumption) dX11_feed_103 (fun H locs hP hD hS => ?_)
                  have hP : va_P g.1 vwCl [(oX11 m0 0 (nI (k + j)) sz_ pl at_ fa fw cs fd rfm rt_ to_ rw_ wa ct rk rb cn br sm as_ go sh_ ir oa ob th ig sp_ ki tg of_ kp sf rs), (aI g fd 500 (upd cj (k + j) ((v4 >>> ((24 - (8 * ((nI j) - (nI j) / 4 * 4))) &&& 31)) &&& 255)))] H := hP
                  have hD : va_D A [(oX11 m0 0 (nI (k + j)) sz_ pl at_ fa fw cs fd rfm rt_ to_ rw_ wa ct rk rb cn br sm as_ go sh_ ir oa ob th ig sp_ ki tg of_ kp sf rs), (aI g fd 500 (upd cj (k + j) ((v4 >>> ((24 - (8 * ((nI j) - (nI j) / 4 * 4))) &&& 31)) &&& 255)))] := hD
                  refine lv_aload_n hx hb dX11_feed_104 rfl (lv_at hl 1 rfl) ?_
                  refine lv_dup hx hb dX11_feed_105 rfl ?_
                  refine va_get (v := .int (nI (k + j))) (T := TX11) (N := 35) hx hb hts inX11 hown hK hP 0 rfl rfl 1 (by decide) f88 (fun _ h9 => h9) rfl dX11_feed_106 ?_
                  refine lv_iconst (v := 1) hx hb dX11_feed_109 (by decide) ?_
                  refine lv_iadd hx hb dX11_feed_110 ?_
                  refine he_top (nI (k + j + 1)) (nI_add (k + j) 1) ?_
                  refine va_put (v := .int (nI (k + j + 1))) (ty := .int) (T := TX11) (N := 35) hx hb hts inX11 tyX11 tyX11_ok nmX11 hown hK hP hD hS 0 rfl rfl 1 (by decide) f88 (fun _ h9 => h9) rfl (by decide +kernel) rfl rfl (Nat.le_of_ble_eq_true rfl) dX11_feed_111 (fun H locs hP hD hS => ?_)
                  have hP : va_P g.1 vwCl [(oX11 m0 0 (nI (k + j + 1)) sz_ pl at_ fa fw cs fd rfm rt_ to_ rw_ wa ct rk rb cn br sm as_ go sh_ ir oa ob th ig sp_ ki tg of_ kp sf rs), (aI g fd 500 (upd cj (k + j) ((v4 >>> ((24 - (8 * ((nI j) - (nI j) / 4 * 4))) &&& 31)) &&& 255)))] H := hP
                  have hD : va_D A [(oX11 m0 0 (nI (k + j + 1)) sz_ pl at_ fa fw cs fd rfm rt_ to_ rw_ wa ct rk rb cn br sm as_ go sh_ ir oa ob th ig sp_ ki tg of_ kp sf rs), (aI g fd 500 (upd cj (k + j) ((v4 >>> ((24 - (8 * ((nI j) - (nI j) / 4 * 4))) &&& 31)) &&& 255)))] := hD
                  refine lv_iinc (v := nI (j + 1)) (lv' := [(6, .int (nI (j + 1))), (7, .int v4), (0, .ref m0), (1, .int v1), (2, .int v2), (3, .int v3), (4, .int v4), (5, .int v5)]) hx hb dX11_feed_114 hl (k := 7) rfl (nI_1 j) (by decide) rfl (fun ls hl => ?_)
                  refine lv_goto (tgt := 23) hx hb dX11_feed_117 (by decide) ?_
                  have hP : va_P g.1 vwCl [(oX11 m0 0 (nI (k + (j + 1))) sz_ pl at_ fa fw cs fd rfm rt_ to_ rw_ wa ct rk rb cn br sm as_ go sh_ ir oa ob th ig sp_ ki tg of_ kp sf rs), (aI g fd 500 (upd cj (k + j) ((v4 >>> ((24 - (8 * ((nI j) - (nI j) / 4 * 4))) &&& 31)) &&& 255)))] H := by skip; exact hP
                  have hD : va_D A [(oX11 m0 0 (nI (k + (j + 1))) sz_ pl at_ fa fw cs fd rfm rt_ to_ rw_ wa ct rk rb cn br sm as_ go sh_ ir oa ob th ig sp_ ki tg of_ kp sf rs), (aI g fd 500 (upd cj (k + j) ((v4 >>> ((24 - (8 * ((nI j) - (nI j) / 4 * 4))) &&& 31)) &&& 255)))] := by skip; exact hD
                  exact ih23 (j + 1) (upd cj (k + j) ((v4 >>> ((24 - (8 * ((nI j) - (nI j) / 4 * 4))) &&& 31)) &&& 255)) (by omega) (by omega) (fd_step hcj (fm_4 (by omega) (by omega))) _ _ _ hP hD hS (lv_sub hl [2, 3, 4, 5, 6, 7, 0] rfl)
              · have k_14 : ¬ (12 ≤ j) := fun h9 => c_9 ((he_cle (a := 12) (b := j) (by decide) rfl (by omega) (by omega)).mpr h9)
                refine lv_iload_n hx hb dX11_feed_58 rfl (lv_at hl 3 rfl) ?_
                refine lv_goto (tgt := 76) hx hb dX11_feed_59 (by decide) ?_
                refine lv_istore (lv' := [(7, .int v3), (0, .ref m0), (1, .int v1), (2, .int v2), (3, .int v3), (4, .int v4), (5, .int v5), (6, .int (nI j))]) hx hb dX11_feed_76 hl (by decide) rfl (fun ls hl => ?_)
                refine lv_aload_n hx hb dX11_feed_78 rfl (lv_at hl 1 rfl) ?_
                refine va_get (v := .ref fd) (T := TX11) (N := 35) hx hb hts inX11 hown hK hP 0 rfl rfl 8 (by decide) f13 (fun _ h9 => h9) rfl dX11_feed_79 ?_
                refine lv_aload_n hx hb dX11_feed_82 rfl (lv_at hl 1 rfl) ?_
                refine va_get (v := .int (nI (k + j))) (T := TX11) (N := 35) hx hb hts inX11 hown hK hP 0 rfl rfl 1 (by decide) f88 (fun _ h9 => h9) rfl dX11_feed_83 ?_
                refine lv_iload hx hb dX11_feed_86 (lv_at hl 0 rfl) ?_
                refine lv_bipush (v := 24) hx hb dX11_feed_88 (by decide) ?_
                refine lv_bipush (v := 8) hx hb dX11_feed_90 (by decide) ?_
                refine lv_iload hx hb dX11_feed_92 (lv_at hl 7 rfl) ?_
                refine lv_iconst (v := 4) hx hb dX11_feed_94 (by decide) ?_
                refine lv_irem hx hb dX11_feed_95 (by decide) ?_
                refine lv_imul hx hb dX11_feed_96 ?_
                refine lv_isub hx hb dX11_feed_97 ?_
                refine lv_ishr hx hb dX11_feed_98 ?_
                refine lv_sipush (v := 255) hx hb dX11_feed_99 (by decide) ?_
                refine lv_iand hx hb dX11_feed_102 ?_
                refine he_iast hx hb hK hP hD hS 1 rfl (k + j) rfl (by first | assumption | decide | omega) (by first | decide | assumption) dX11_feed_103 (fun H locs hP hD hS => ?_)
                have hP : va_P g.1 vwCl [(oX11 m0 0 (nI (k + j)) sz_ pl at_ fa fw cs fd rfm rt_ to_ rw_ wa ct rk rb cn br sm as_ go sh_ ir oa ob th ig sp_ ki tg of_ kp sf rs), (aI g fd 500 (upd cj (k + j) ((v3 >>> ((24 - (8 * ((nI j) - (nI j) / 4 * 4))) &&& 31)) &&& 255)))] H := hP
                have hD : va_D A [(oX11 m0 0 (nI (k + j)) sz_ pl at_ fa fw cs fd rfm rt_ to_ rw_ wa ct rk rb cn br sm as_ go sh_ ir oa ob th ig sp_ ki tg of_ kp sf rs), (aI g fd 500 (upd cj (k + j) ((v3 >>> ((24 - (8 * ((nI j) - (nI j) / 4 * 4))) &&& 31)) &&& 255)))] := hD
                refine lv_aload_n hx hb dX11_feed_104 rfl (lv_at hl 1 rfl) ?_
                refine lv_dup hx hb dX11_feed_105 rfl ?_
                refine va_get (v := .int (nI (k + j))) (T := TX11) (N := 35) hx hb hts inX11 hown hK hP 0 rfl rfl 1 (by decide) f88 (fun _ h9 => h9) rfl dX11_feed_106 ?_
                refine lv_iconst (v := 1) hx hb dX11_feed_109 (by decide) ?_
                refine lv_iadd hx hb dX11_feed_110 ?_
                refine he_top (nI (k + j + 1)) (nI_add (k + j) 1) ?_
                refine va_put (v := .int (nI (k + j + 1))) (ty := .int) (T := TX11) (N := 35) hx hb hts inX11 tyX11 tyX11_ok nmX11 hown hK hP hD hS 0 rfl rfl 1 (by decide) f88 (fun _ h9 => h9) rfl (by decide +kernel) rfl rfl (Nat.le_of_ble_eq_true rfl) dX11_feed_111 (fun H locs hP hD hS => ?_)
                have hP : va_P g.1 vwCl [(oX11 m0 0 (nI (k + j + 1)) sz_ pl at_ fa fw cs fd rfm rt_ to_ rw_ wa ct rk rb cn br sm as_ go sh_ ir oa ob th ig sp_ ki tg of_ kp sf rs), (aI g fd 500 (upd cj (k + j) ((v3 >>> ((24 - (8 * ((nI j) - (nI j) / 4 * 4))) &&& 31)) &&& 255)))] H := hP
                have hD : va_D A [(oX11 m0 0 (nI (k + j + 1)) sz_ pl at_ fa fw cs fd rfm rt_ to_ rw_ wa ct rk rb cn br sm as_ go sh_ ir oa ob th ig sp_ ki tg of_ kp sf rs), (aI g fd 500 (upd cj (k + j) ((v3 >>> ((24 - (8 * ((nI j) - (nI j) / 4 * 4))) &&& 31)) &&& 255)))] := hD
                refine lv_iinc (v := nI (j + 1)) (lv' := [(6, .int (nI (j + 1))), (7, .int v3), (0, .ref m0), (1, .int v1), (2, .int v2), (3, .int v3), (4, .int v4), (5, .int v5)]) hx hb dX11_feed_114 hl (k := 7) rfl (nI_1 j) (by decide) rfl (fun ls hl => ?_)
                refine lv_goto (tgt := 23) hx hb dX11_feed_117 (by decide) ?_
                have hP : va_P g.1 vwCl [(oX11 m0 0 (nI (k + (j + 1))) sz_ pl at_ fa fw cs fd rfm rt_ to_ rw_ wa ct rk rb cn br sm as_ go sh_ ir oa ob th ig sp_ ki tg of_ kp sf rs), (aI g fd 500 (upd cj (k + j) ((v3 >>> ((24 - (8 * ((nI j) - (nI j) / 4 * 4))) &&& 31)) &&& 255)))] H := by skip; exact hP
                have hD : va_D A [(oX11 m0 0 (nI (k + (j + 1))) sz_ pl at_ fa fw cs fd rfm rt_ to_ rw_ wa ct rk rb cn br sm as_ go sh_ ir oa ob th ig sp_ ki tg of_ kp sf rs), (aI g fd 500 (upd cj (k + j) ((v3 >>> ((24 - (8 * ((nI j) - (nI j) / 4 * 4))) &&& 31)) &&& 255)))] := by skip; exact hD
                exact ih23 (j + 1) (upd cj (k + j) ((v3 >>> ((24 - (8 * ((nI j) - (nI j) / 4 * 4))) &&& 31)) &&& 255)) (by omega) (by omega) (fd_step hcj (fm_3 (by omega) (by omega))) _ _ _ hP hD hS (lv_sub hl [2, 3, 4, 5, 6, 7, 0] rfl)
            · have k_15 : ¬ (8 ≤ j) := fun h9 => c_7 ((he_cle (a := 8) (b := j) (by decide) rfl (by omega) (by omega)).mpr h9)
              refine lv_iload_n hx hb dX11_feed_47 rfl (lv_at hl 2 rfl) ?_
              refine lv_goto (tgt := 76) hx hb dX11_feed_48 (by decide) ?_
              refine lv_istore (lv' := [(7, .int v2), (0, .ref m0), (1, .int v1), (2, .int v2), (3, .int v3), (4, .int v4), (5, .int v5), (6, .int (nI j))]) hx hb dX11_feed_76 hl (by decide) rfl (fun ls hl => ?_)
              refine lv_aload_n hx hb dX11_feed_78 rfl (lv_at hl 1 rfl) ?_
              refine va_get (v := .ref fd) (T := TX11) (N := 35) hx hb hts inX11 hown hK hP 0 rfl rfl 8 (by decide) f13 (fun _ h9 => h9) rfl dX11_feed_79 ?_
              refine lv_aload_n hx hb dX11_feed_82 rfl (lv_at hl 1 rfl) ?_
              refine va_get (v := .int (nI (k + j))) (T := TX11) (N := 35) hx hb hts inX11 hown hK hP 0 rfl rfl 1 (by decide) f88 (fun _ h9 => h9) rfl dX11_feed_83 ?_
              refine lv_iload hx hb dX11_feed_86 (lv_at hl 0 rfl) ?_
              refine lv_bipush (v := 24) hx hb dX11_feed_88 (by decide) ?_
              refine lv_bipush (v := 8) hx hb dX11_feed_90 (by decide) ?_
              refine lv_iload hx hb dX11_feed_92 (lv_at hl 7 rfl) ?_
              refine lv_iconst (v := 4) hx hb dX11_feed_94 (by decide) ?_
              refine lv_irem hx hb dX11_feed_95 (by decide) ?_
              refine lv_imul hx hb dX11_feed_96 ?_
              refine lv_isub hx hb dX11_feed_97 ?_
              refine lv_ishr hx hb dX11_feed_98 ?_
              refine lv_sipush (v := 255) hx hb dX11_feed_99 (by decide) ?_
              refine lv_iand hx hb dX11_feed_102 ?_
              refine he_iast hx hb hK hP hD hS 1 rfl (k + j) rfl (by first | assumption | decide | omega) (by first | decide | assumption) dX11_feed_103 (fun H locs hP hD hS => ?_)
              have hP : va_P g.1 vwCl [(oX11 m0 0 (nI (k + j)) sz_ pl at_ fa fw cs fd rfm rt_ to_ rw_ wa ct rk rb cn br sm as_ go sh_ ir oa ob th ig sp_ ki tg of_ kp sf rs), (aI g fd 500 (upd cj (k + j) ((v2 >>> ((24 - (8 * ((nI j) - (nI j) / 4 * 4))) &&& 31)) &&& 255)))] H := hP
              have hD : va_D A [(oX11 m0 0 (nI (k + j)) sz_ pl at_ fa fw cs fd rfm rt_ to_ rw_ wa ct rk rb cn br sm as_ go sh_ ir oa ob th ig sp_ ki tg of_ kp sf rs), (aI g fd 500 (upd cj (k + j) ((v2 >>> ((24 - (8 * ((nI j) - (nI j) / 4 * 4))) &&& 31)) &&& 255)))] := hD
              refine lv_aload_n hx hb dX11_feed_104 rfl (lv_at hl 1 rfl) ?_
              refine lv_dup hx hb dX11_feed_105 rfl ?_
              refine va_get (v := .int (nI (k + j))) (T := TX11) (N := 35) hx hb hts inX11 hown hK hP 0 rfl rfl 1 (by decide) f88 (fun _ h9 => h9) rfl dX11_feed_106 ?_
              refine lv_iconst (v := 1) hx hb dX11_feed_109 (by decide) ?_
              refine lv_iadd hx hb dX11_feed_110 ?_
              refine he_top (nI (k + j + 1)) (nI_add (k + j) 1) ?_
              refine va_put (v := .int (nI (k + j + 1))) (ty := .int) (T := TX11) (N := 35) hx hb hts inX11 tyX11 tyX11_ok nmX11 hown hK hP hD hS 0 rfl rfl 1 (by decide) f88 (fun _ h9 => h9) rfl (by decide +kernel) rfl rfl (Nat.le_of_ble_eq_true rfl) dX11_feed_111 (fun H locs hP hD hS => ?_)
              have hP : va_P g.1 vwCl [(oX11 m0 0 (nI (k + j + 1)) sz_ pl at_ fa fw cs fd rfm rt_ to_ rw_ wa ct rk rb cn br sm as_ go sh_ ir oa ob th ig sp_ ki tg of_ kp sf rs), (aI g fd 500 (upd cj (k + j) ((v2 >>> ((24 - (8 * ((nI j) - (nI j) / 4 * 4))) &&& 31)) &&& 255)))] H := hP
              have hD : va_D A [(oX11 m0 0 (nI (k + j + 1)) sz_ pl at_ fa fw cs fd rfm rt_ to_ rw_ wa ct rk rb cn br sm as_ go sh_ ir oa ob th ig sp_ ki tg of_ kp sf rs), (aI g fd 500 (upd cj (k + j) ((v2 >>> ((24 - (8 * ((nI j) - (nI j) / 4 * 4))) &&& 31)) &&& 255)))] := hD
              refine lv_iinc (v := nI (j + 1)) (lv' := [(6, .int (nI (j + 1))), (7, .int v2), (0, .ref m0), (1, .int v1), (2, .int v2), (3, .int v3), (4, .int v4), (5, .int v5)]) hx hb dX11_feed_114 hl (k := 7) rfl (nI_1 j) (by decide) rfl (fun ls hl => ?_)
              refine lv_goto (tgt := 23) hx hb dX11_feed_117 (by decide) ?_
              have hP : va_P g.1 vwCl [(oX11 m0 0 (nI (k + (j + 1))) sz_ pl at_ fa fw cs fd rfm rt_ to_ rw_ wa ct rk rb cn br sm as_ go sh_ ir oa ob th ig sp_ ki tg of_ kp sf rs), (aI g fd 500 (upd cj (k + j) ((v2 >>> ((24 - (8 * ((nI j) - (nI j) / 4 * 4))) &&& 31)) &&& 255)))] H := by skip; exact hP
              have hD : va_D A [(oX11 m0 0 (nI (k + (j + 1))) sz_ pl at_ fa fw cs fd rfm rt_ to_ rw_ wa ct rk rb cn br sm as_ go sh_ ir oa ob th ig sp_ ki tg of_ kp sf rs), (aI g fd 500 (upd cj (k + j) ((v2 >>> ((24 - (8 * ((nI j) - (nI j) / 4 * 4))) &&& 31)) &&& 255)))] := by skip; exact hD
              exact ih23 (j + 1) (upd cj (k + j) ((v2 >>> ((24 - (8 * ((nI j) - (nI j) / 4 * 4))) &&& 31)) &&& 255)) (by omega) (by omega) (fd_step hcj (fm_2 (by omega) (by omega))) _ _ _ hP hD hS (lv_sub hl [2, 3, 4, 5, 6, 7, 0] rfl)
          · have k_16 : ¬ (4 ≤ j) := fun h9 => c_5 ((he_cle (a := 4) (b := j) (by decide) rfl (by omega) (by omega)).mpr h9)
            refine lv_iload_n hx hb dX11_feed_36 rfl (lv_at hl 1 rfl) ?_
            refine lv_goto (tgt := 76) hx hb dX11_feed_37 (by decide) ?_
            refine lv_istore (lv' := [(7, .int v1), (0, .ref m0), (1, .int v1), (2, .int v2), (3, .int v3), (4, .int v4), (5, .int v5), (6, .int (nI j))]) hx hb dX11_feed_76 hl (by decide) rfl (fun ls hl => ?_)
            refine lv_aload_n hx hb dX11_feed_78 rfl (lv_at hl 1 rfl) ?_
            refine va_get (v := .ref fd) (T := TX11) (N := 35) hx hb hts inX11 hown hK hP 0 rfl rfl 8 (by decide) f13 (fun _ h9 => h9) rfl dX11_feed_79 ?_
            refine lv_aload_n hx hb dX11_feed_82 rfl (lv_at hl 1 rfl) ?_
            refine va_get (v := .int (nI (k + j))) (T := TX11) (N := 35) hx hb hts inX11 hown hK hP 0 rfl rfl 1 (by decide) f88 (fun _ h9 => h9) rfl dX11_feed_83 ?_
            refine lv_iload hx hb dX11_feed_86 (lv_at hl 0 rfl) ?_
            refine lv_bipush (v := 24) hx hb dX11_feed_88 (by decide) ?_
            refine lv_bipush (v := 8) hx hb dX11_feed_90 (by decide) ?_
            refine lv_iload hx hb dX11_feed_92 (lv_at hl 7 rfl) ?_
            refine lv_iconst (v := 4) hx hb dX11_feed_94 (by decide) ?_
            refine lv_irem hx hb dX11_feed_95 (by decide) ?_
            refine lv_imul hx hb dX11_feed_96 ?_
            refine lv_isub hx hb dX11_feed_97 ?_
            refine lv_ishr hx hb dX11_feed_98 ?_
            refine lv_sipush (v := 255) hx hb dX11_feed_99 (by decide) ?_
            refine lv_iand hx hb dX11_feed_102 ?_
            refine he_iast hx hb hK hP hD hS 1 rfl (k + j) rfl (by first | assumption | decide | omega) (by first | decide | assumption) dX11_feed_103 (fun H locs hP hD hS => ?_)
            have hP : va_P g.1 vwCl [(oX11 m0 0 (nI (k + j)) sz_ pl at_ fa fw cs fd rfm rt_ to_ rw_ wa ct rk rb cn br sm as_ go sh_ ir oa ob th ig sp_ ki tg of_ kp sf rs), (aI g fd 500 (upd cj (k + j) ((v1 >>> ((24 - (8 * ((nI j) - (nI j) / 4 * 4))) &&& 31)) &&& 255)))] H := hP
            have hD : va_D A [(oX11 m0 0 (nI (k + j)) sz_ pl at_ fa fw cs fd rfm rt_ to_ rw_ wa ct rk rb cn br sm as_ go sh_ ir oa ob th ig sp_ ki tg of_ kp sf rs), (aI g fd 500 (upd cj (k + j) ((v1 >>> ((24 - (8 * ((nI j) - (nI j) / 4 * 4))) &&& 31)) &&& 255)))] := hD
            refine lv_aload_n hx hb dX11_feed_104 rfl (lv_at hl 1 rfl) ?_
            refine lv_dup hx hb dX11_feed_105 rfl ?_
            refine va_get (v := .int (nI (k + j))) (T := TX11) (N := 35) hx hb hts inX11 hown hK hP 0 rfl rfl 1 (by decide) f88 (fun _ h9 => h9) rfl dX11_feed_106 ?_
            refine lv_iconst (v := 1) hx hb dX11_feed_109 (by decide) ?_
            refine lv_iadd hx hb dX11_feed_110 ?_
            refine he_top (nI (k + j + 1)) (nI_add (k + j) 1) ?_
            refine va_put (v := .int (nI (k + j + 1))) (ty := .int) (T := TX11) (N := 35) hx hb hts inX11 tyX11 tyX11_ok nmX11 hown hK hP hD hS 0 rfl rfl 1 (by decide) f88 (fun _ h9 => h9) rfl (by decide +kernel) rfl rfl (Nat.le_of_ble_eq_true rfl) dX11_feed_111 (fun H locs hP hD hS => ?_)
            have hP : va_P g.1 vwCl [(oX11 m0 0 (nI (k + j + 1)) sz_ pl at_ fa fw cs fd rfm rt_ to_ rw_ wa ct rk rb cn br sm as_ go sh_ ir oa ob th ig sp_ ki tg of_ kp sf rs), (aI g fd 500 (upd cj (k + j) ((v1 >>> ((24 - (8 * ((nI j) - (nI j) / 4 * 4))) &&& 31)) &&& 255)))] H := hP
            have hD : va_D A [(oX11 m0 0 (nI (k + j + 1)) sz_ pl at_ fa fw cs fd rfm rt_ to_ rw_ wa ct rk rb cn br sm as_ go sh_ ir oa ob th ig sp_ ki tg of_ kp sf rs), (aI g fd 500 (upd cj (k + j) ((v1 >>> ((24 - (8 * ((nI j) - (nI j) / 4 * 4))) &&& 31)) &&& 255)))] := hD
            refine lv_iinc (v := nI (j + 1)) (lv' := [(6, .int (nI (j + 1))), (7, .int v1), (0, .ref m0), (1, .int v1), (2, .int v2), (3, .int v3), (4, .int v4), (5, .int v5)]) hx hb dX11_feed_114 hl (k := 7) rfl (nI_1 j) (by decide) rfl (fun ls hl => ?_)
            refine lv_goto (tgt := 23) hx hb dX11_feed_117 (by decide) ?_
            have hP : va_P g.1 vwCl [(oX11 m0 0 (nI (k + (j + 1))) sz_ pl at_ fa fw cs fd rfm rt_ to_ rw_ wa ct rk rb cn br sm as_ go sh_ ir oa ob th ig sp_ ki tg of_ kp sf rs), (aI g fd 500 (upd cj (k + j) ((v1 >>> ((24 - (8 * ((nI j) - (nI j) / 4 * 4))) &&& 31)) &&& 255)))] H := by skip; exact hP
            have hD : va_D A [(oX11 m0 0 (nI (k + (j + 1))) sz_ pl at_ fa fw cs fd rfm rt_ to_ rw_ wa ct rk rb cn br sm as_ go sh_ ir oa ob th ig sp_ ki tg of_ kp sf rs), (aI g fd 500 (upd cj (k + j) ((v1 >>> ((24 - (8 * ((nI j) - (nI j) / 4 * 4))) &&& 31)) &&& 255)))] := by skip; exact hD
            exact ih23 (j + 1) (upd cj (k + j) ((v1 >>> ((24 - (8 * ((nI j) - (nI j) / 4 * 4))) &&& 31)) &&& 255)) (by omega) (by omega) (fd_step hcj (fm_1 (by omega) (by omega))) _ _ _ hP hD hS (lv_sub hl [2, 3, 4, 5, 6, 7, 0] rfl)
    have hP : va_P g.1 vwCl [(oX11 m0 0 (nI (k + 0)) sz_ pl at_ fa fw cs fd rfm rt_ to_ rw_ wa ct rk rb cn br sm as_ go sh_ ir oa ob th ig sp_ ki tg of_ kp sf rs), (aI g fd 500 f)] H := by skip; exact hP
    have hD : va_D A [(oX11 m0 0 (nI (k + 0)) sz_ pl at_ fa fw cs fd rfm rt_ to_ rw_ wa ct rk rb cn br sm as_ go sh_ ir oa ob th ig sp_ ki tg of_ kp sf rs), (aI g fd 500 f)] := by skip; exact hD
    exact loop23 ((20 - 0) + 1) 0 f (Nat.lt_succ_self _) (Nat.zero_le _) (fun i hi => by rw [pn_0 (k := k) (show i < k from hi)]; exact hT i hi) _ _ _ hP hD hS (lv_sub hl [1, 2, 3, 4, 5, 6, 0] rfl)
  · exact absurd ((he_cle (a := k + 20) (b := 500) rfl (by decide) (by omega) (by decide)).mpr (by omega)) c_1
set_option maxHeartbeats 4000000 in
set_option maxRecDepth 100000 in
theorem q_X11_contract (l : Launch) (g : he_G) (m0 : Nat) (fd : Nat) (rfm : Nat) (rt_ : Nat) (to_ : Nat) (rw_ : Nat) (wa : Nat) (rk : Nat) (rb : Nat) (cn : Nat) (br : Nat) (sm : Nat) (as_ : Nat) (go : Nat) (sh_ : Nat) (ki : Nat) (tg : Nat) (of_ : Nat) (kp : Nat) (rs : Nat) (sz_ : Int32) (pl : Int32) (at_ : Int32) (fa : Int32) (fw : Int32) (cs : Int32) (ir : Int32) (oa : Int32) (ob : Int32) (th : Int32) (ig : Int32) (sp_ : Int32) (sf : Int32) (tw : Int32) (ta : Nat) (nt : Nat) (n : Nat) (fb : Nat → Int32) (tl : Nat → Int32) (rk_ : Nat → Int32) (rb_ : Nat → Int32) (w : Nat) (L : List Nat) (ln : Nat → Nat) (M : Nat → Nat → Int32) (r3 : Nat → Nat) (r4 : Nat → Nat) (T : Nat → Nat) (hta : ta ≤ 500) (hnt : n ≤ ta) (hn2 : n ≤ 200) (hct : nt ≤ 6) (htl : tl 0 = nI w) (hw6 : w ≤ 6) (F_r3 : ∀ i, i < 7 → r3 i ∈ L ∧ ln (r3 i) = 7 ∧ True) (F_r4 : ∀ i, i < 7 → r4 i ∈ L ∧ ln (r4 i) = 36 ∧ True) (D_r3_r4 : ∀ i j, i < 7 → j < 7 → r3 i ≠ r4 j) (hF : ∀ j, j < n → T j < 256 ∧ fb j = nI (T j)) : he_I l yX11_contract wsX11_contract 5 112 0 0 g [.ref m0, .int (nI n)] ([(oX11 m0 tw (nI ta) sz_ pl at_ fa fw cs fd rfm rt_ to_ rw_ wa (nI nt) rk rb cn br sm as_ go sh_ ir oa ob th ig sp_ ki tg of_ kp sf rs), (aI g fd 500 fb), (aI g to_ 25 tl), (aI g rk 7 rk_), (aI g rb 36 rb_), (aM g cn 7 (he_ro 7 r3)), (aM g br 7 (he_ro 7 r4))] ++ he_pl g L ln M) (fun (r : Int32) (u : Nat × Nat × Int32 × Int32 × Int32 × Int32 × (Nat → Int32) × (Nat → Int32) × (Nat → Nat → Int32)) => ((u.1 = nt ∧ u.2.2.2.2.2.2.2.2 = M ∧ ((nt = 6 ∧ r = -1) ∨ (nt < 6 ∧ ¬ u.2.2.1 = 0 ∧ r = u.2.2.1 - 10))) ∨ (nt < 6 ∧ u.1 = nt + 1 ∧ cOk (u.2.2.2.2.2.2.2.2 (r3 nt)) ∧ bOk (u.2.2.2.2.2.2.2.2 (r4 nt)) ∧ (∀ a, a ≠ r3 nt → a ≠ r4 nt → u.2.2.2.2.2.2.2.2 a = M a) ∧ u.2.2.1 = 0 ∧ r = nI nt)) ∧ (nt < 6 → (u.2.2.1 = faC (txP T n wl5 (bd5 w) (fun b _ => fl5 b) 21 0 0 0).1 ∧ u.2.2.2.1 = faP (txP T n wl5 (bd5 w) (fun b _ => fl5 b) 21 0 0 0).1 ∧ u.2.2.2.2.2.1 = faP (txP T n wl5 (bd5 w) (fun b _ => fl5 b) 21 0 0 0).1)) ∧ (nt = 6 → u.2.2.2.2.2.1 = -1)) (fun (u : Nat × Nat × Int32 × Int32 × Int32 × Int32 × (Nat → Int32) × (Nat → Int32) × (Nat → Nat → Int32)) => [(oX11 m0 0 0 (nI n) u.2.2.2.2.2.1 (nI u.2.1) u.2.2.1 u.2.2.2.1 u.2.2.2.2.1 fd rfm rt_ to_ rw_ wa (nI u.1) rk rb cn br sm as_ go sh_ ir oa ob th ig sp_ ki tg of_ kp sf rs), (aI g fd 500 fb), (aI g to_ 25 tl), (aI g rk 7 u.2.2.2.2.2.2.1), (aI g rb 36 u.2.2.2.2.2.2.2.1), (aM g cn 7 (he_ro 7 r3)), (aM g br 7 (he_ro 7 r4))] ++ he_pl g L ln u.2.2.2.2.2.2.2.2) := by
  refine he_begin (l := l) (g := g) (y := yX11_contract) (wl := wsX11_contract) (fr := 5) (lo := 112) (mc := 0) (ms := 0) (av := [.ref m0, .int (nI n)]) (ws := ([(oX11 m0 tw (nI ta) sz_ pl at_ fa fw cs fd rfm rt_ to_ rw_ wa (nI nt) rk rb cn br sm as_ go sh_ ir oa ob th ig sp_ ki tg of_ kp sf rs), (aI g fd 500 fb), (aI g to_ 25 tl), (aI g rk 7 rk_), (aI g rb 36 rb_), (aM g cn 7 (he_ro 7 r3)), (aM g br 7 (he_ro 7 r4))] ++ he_pl g L ln M)) (cc := cX11_contract) (maxL := 3) (ret := (some .int)) (fun A => va_Qi (fun (r : Int32) (u : Nat × Nat × Int32 × Int32 × Int32 × Int32 × (Nat → Int32) × (Nat → Int32) × (Nat → Nat → Int32)) => ((u.1 = nt ∧ u.2.2.2.2.2.2.2.2 = M ∧ ((nt = 6 ∧ r = -1) ∨ (nt < 6 ∧ ¬ u.2.2.1 = 0 ∧ r = u.2.2.1 - 10))) ∨ (nt < 6 ∧ u.1 = nt + 1 ∧ cOk (u.2.2.2.2.2.2.2.2 (r3 nt)) ∧ bOk (u.2.2.2.2.2.2.2.2 (r4 nt)) ∧ (∀ a, a ≠ r3 nt → a ≠ r4 nt → u.2.2.2.2.2.2.2.2 a = M a) ∧ u.2.2.1 = 0 ∧ r = nI nt)) ∧ (nt < 6 → (u.2.2.1 = faC (txP T n wl5 (bd5 w) (fun b _ => fl5 b) 21 0 0 0).1 ∧ u.2.2.2.1 = faP (txP T n wl5 (bd5 w) (fun b _ => fl5 b) 21 0 0 0).1 ∧ u.2.2.2.2.2.1 = faP (txP T n wl5 (bd5 w) (fun b _ => fl5 b) 21 0 0 0).1)) ∧ (nt = 6 → u.2.2.2.2.2.1 = -1)) (fun u t => he_post g A ((fun (u : Nat × Nat × Int32 × Int32 × Int32 × Int32 × (Nat → Int32) × (Nat → Int32) × (Nat → Nat → Int32)) => [(oX11 m0 0 0 (nI n) u.2.2.2.2.2.1 (nI u.2.1) u.2.2.1 u.2.2.2.1 u.2.2.2.2.1 fd rfm rt_ to_ rw_ wa (nI u.1) rk rb cn br sm as_ go sh_ ir oa ob th ig sp_ ki tg of_ kp sf rs), (aI g fd 500 fb), (aI g to_ 25 tl), (aI g rk 7 u.2.2.2.2.2.2.1), (aI g rb 36 u.2.2.2.2.2.2.2.1), (aM g cn 7 (he_ro 7 r3)), (aM g br 7 (he_ro 7 r4))] ++ he_pl g L ln u.2.2.2.2.2.2.2.2) u) t) A) (by decide) rfl (Nat.le_of_ble_eq_true rfl) ?_
  intro p e s m args below meth c A ls H locs Q hQ hB
  obtain ⟨hx, hb, hr, hml, hown, hts, hlk, hin, hP, hK, hD, hS, hA, hE, hl⟩ := hB
  have hl : lv_has ls 3 [(0, .ref m0), (1, .int (nI n))] := hl
  have f85 := hts (.fieldLink RX11 85 "HiredEnemyModel" "thrown" "I") (iwoX11_contract (k := 0) rfl)
  have inX11 : ∀ w ∈ wsX110, w ∈ wsX11_contract := innX11_contract_X11
  have f88 := hts (.fieldLink RX11 88 "HiredEnemyModel" "tape" "I") (iwoX11_contract (k := 1) rfl)
  have f9 := hts (.fieldLink RX11 9 "HiredEnemyModel" "place" "I") (iwoX11_contract (k := 2) rfl)
  have f162 := hts (.fieldLink RX11 162 "HiredEnemyModel" "contracts" "I") (iwoX11_contract (k := 3) rfl)
  have f101 := hts (.fieldLink RX11 101 "HiredEnemyModel" "fault" "I") (iwoX11_contract (k := 6) rfl)
  have f104 := hts (.fieldLink RX11 104 "HiredEnemyModel" "faultAt" "I") (iwoX11_contract (k := 9) rfl)
  have f94 := hts (.fieldLink RX11 94 "HiredEnemyModel" "at" "I") (iwoX11_contract (k := 7) rfl)
  have f91 := hts (.fieldLink RX11 91 "HiredEnemyModel" "size" "I") (iwoX11_contract (k := 8) rfl)
  have f34 := hts (.fieldLink RX11 34 "HiredEnemyModel" "readContract" "[I") (iwoX11_contract (k := 4) rfl)
  have f40 := hts (.fieldLink RX11 40 "HiredEnemyModel" "contract" "[[I") (iwoX11_contract (k := 11) rfl)
  have f43 := hts (.fieldLink RX11 43 "HiredEnemyModel" "breach" "[[I") (iwoX11_contract (k := 10) rfl)
  have f37 := hts (.fieldLink RX11 37 "HiredEnemyModel" "readBreach" "[I") (iwoX11_contract (k := 5) rfl)
  refine lv_aload_n hx hb dX11_contract_0 rfl (lv_at hl 0 rfl) ?_
  refine lv_iconst (v := 0) hx hb dX11_contract_1 (by decide) ?_
  refine va_put (v := .int 0) (ty := .int) (T := TX11) (N := 35) hx hb hts inX11 tyX11 tyX11_ok nmX11 hown hK hP hD hS 0 rfl rfl 0 (by decide) f85 (fun _ h9 => h9) rfl (by decide +kernel) rfl rfl (Nat.le_of_ble_eq_true rfl) dX11_contract_2 (fun H locs hP hD hS => ?_)
  have hP : va_P g.1 vwCl ([(oX11 m0 0 (nI ta) sz_ pl at_ fa fw cs fd rfm rt_ to_ rw_ wa (nI nt) rk rb cn br sm as_ go sh_ ir oa ob th ig sp_ ki tg of_ kp sf rs), (aI g fd 500 fb), (aI g to_ 25 tl), (aI g rk 7 rk_), (aI g rb 36 rb_), (aM g cn 7 (he_ro 7 r3)), (aM g br 7 (he_ro 7 r4))] ++ he_pl g L ln M) H := hP
  have hD : va_D A ([(oX11 m0 0 (nI ta) sz_ pl at_ fa fw cs fd rfm rt_ to_ rw_ wa (nI nt) rk rb cn br sm as_ go sh_ ir oa ob th ig sp_ ki tg of_ kp sf rs), (aI g fd 500 fb), (aI g to_ 25 tl), (aI g rk 7 rk_), (aI g rb 36 rb_), (aM g cn 7 (he_ro 7 r3)), (aM g br 7 (he_ro 7 r4))] ++ he_pl g L ln M) := hD
  refine lv_aload_n hx hb dX11_contract_5 rfl (lv_at hl 0 rfl) ?_
  refine lv_iload_n hx hb dX11_contract_6 rfl (lv_at hl 1 rfl) ?_
  refine lv_iconst (v := 0) hx hb dX11_contract_7 (by decide) ?_
  refine lv_aload_n hx hb dX11_contract_8 rfl (lv_at hl 0 rfl) ?_
  refine va_get (v := .int (nI ta)) (T := TX11) (N := 35) hx hb hts inX11 hown hK hP 0 rfl rfl 1 (by decide) f88 (fun _ h9 => h9) rfl dX11_contract_9 ?_
  refine he_ci (wc := []) (wr := ([(oX11 m0 0 (nI ta) sz_ pl at_ fa fw cs fd rfm rt_ to_ rw_ wa (nI nt) rk rb cn br sm as_ go sh_ ir oa ob th ig sp_ ki tg of_ kp sf rs), (aI g fd 500 fb), (aI g to_ 25 tl), (aI g rk 7 rk_), (aI g rb 36 rb_), (aM g cn 7 (he_ro 7 r3)), (aM g br 7 (he_ro 7 r4))] ++ (he_pl g L ln M))) (va_runS (As := [.int (nI n), .int 0, .int (nI ta)]) (rest := [.ref m0]) ⟨hx, hb, hml, hown, hts⟩ (c_X11_in l g (nI n) 0 (nI ta) H.size) (va_cwS 3 hts gX11_contract_X11_in rfl rfl rfl (by decide +kernel) ⟨Nat.le_of_ble_eq_true rfl, Nat.le_of_ble_eq_true rfl⟩) (he_preS (wc := []) hK hP hD hS hA hE [] rfl rfl) rfl rfl hl.1 rfl (lv_room (Nat.le_of_ble_eq_true rfl)) dX11_contract_12 ⟨(Nat.le_of_ble_eq_true rfl), (Nat.le_of_ble_eq_true rfl)⟩) hP hD hS hA [] (he_is [0, 1, 2, 3, 4, 5, 6] [(oX11 m0 0 (nI ta) sz_ pl at_ fa fw cs fd rfm rt_ to_ rw_ wa (nI nt) rk rb cn br sm as_ go sh_ ir oa ob th ig sp_ ki tg of_ kp sf rs), (aI g fd 500 fb), (aI g to_ 25 tl), (aI g rk 7 rk_), (aI g rb 36 rb_), (aM g cn 7 (he_ro 7 r3)), (aM g br 7 (he_ro 7 r4))] (he_pl g L ln M)) rfl (he_ixP rfl) (he_ndP rfl rfl) (he_disN (by decide) rfl) (fun r_1 u_2 H locs h_3 hP hD hS => ?_)
  have hP := va_P.swap hP
  have hD := va_D.swap hD
  subst h_3
  have hP : va_P g.1 vwCl ([(oX11 m0 0 (nI ta) sz_ pl at_ fa fw cs fd rfm rt_ to_ rw_ wa (nI nt) rk rb cn br sm as_ go sh_ ir oa ob th ig sp_ ki tg of_ kp sf rs), (aI g fd 500 fb), (aI g to_ 25 tl), (aI g rk 7 rk_), (aI g rb 36 rb_), (aM g cn 7 (he_ro 7 r3)), (aM g br 7 (he_ro 7 r4))] ++ he_pl g L ln M) H := hP
  have hD : va_D A ([(oX11 m0 0 (nI ta) sz_ pl at_ fa fw cs fd rfm rt_ to_ rw_ wa (nI nt) rk rb cn br sm as_ go sh_ ir oa ob th ig sp_ ki tg of_ kp sf rs), (aI g fd 500 fb), (aI g to_ 25 tl), (aI g rk 7 rk_), (aI g rb 36 rb_), (aM g cn 7 (he_ro 7 r3)), (aM g br 7 (he_ro 7 r4))] ++ he_pl g L ln M) := hD
  refine he_top (1) (he_within_in (a0 := 0) (B := ta) rfl rfl (by omega) (by omega) (by omega)) ?_
  refine lv_if_eq (tgt := 25) hx hb dX11_contract_15 (by decide) (fun c_4 => ?_) (fun c_4 => ?_)
  · exact absurd c_4 (by decide)
  · refine lv_iload_n hx hb dX11_contract_18 rfl (lv_at hl 1 rfl) ?_
    refine lv_sipush (v := 200) hx hb dX11_contract_19 (by decide) ?_
    refine lv_icmp_le (tgt := 29) hx hb dX11_contract_22 (by decide) (fun c_5 => ?_) (fun c_5 => ?_)
    · refine lv_iconst (v := 0) hx hb dX11_contract_29 (by decide) ?_
      refine lv_iconst (v := 1) hx hb dX11_contract_30 (by decide) ?_
      refine lv_iconst (v := 2) hx hb dX11_contract_31 (by decide) ?_
      refine he_ci (wc := [(oX11 m0 0 (nI ta) sz_ pl at_ fa fw cs fd rfm rt_ to_ rw_ wa (nI nt) rk rb cn br sm as_ go sh_ ir oa ob th ig sp_ ki tg of_ kp sf rs)]) (wr := ([(aI g fd 500 fb), (aI g to_ 25 tl), (aI g rk 7 rk_), (aI g rb 36 rb_), (aM g cn 7 (he_ro 7 r3)), (aM g br 7 (he_ro 7 r4))] ++ (he_pl g L ln M))) (va_runV (As := [.int 0, .int 1, .int 2]) (rest := []) ⟨hx, hb, hml, hown, hts⟩ (c_X11_bad0 l g m0 fd rfm rt_ to_ rw_ wa rk rb cn br sm as_ go sh_ ki tg of_ kp rs (nI ta) sz_ pl at_ fa fw cs (nI nt) ir oa ob th ig sp_ sf 1 2 H.size) (cwV 3 hts gX11_contract_X11_bad rfl rfl rfl (by decide +kernel) ⟨Nat.le_of_ble_eq_true rfl, Nat.le_of_ble_eq_true rfl⟩) (he_preV (wc := [(oX11 m0 0 (nI ta) sz_ pl at_ fa fw cs fd rfm rt_ to_ rw_ wa (nI nt) rk rb cn br sm as_ go sh_ ir oa ob th ig sp_ ki tg of_ kp sf rs)]) hK hP hD hS hA hE [0] rfl rfl 0 rfl rfl) rfl rfl hl.1 rfl (lv_room (Nat.le_of_ble_eq_true rfl)) dX11_contract_32 ⟨(Nat.le_of_ble_eq_true rfl), (Nat.le_of_ble_eq_true rfl)⟩) hP hD hS hA [0] (he_is [1, 2, 3, 4, 5, 6] [(oX11 m0 0 (nI ta) sz_ pl at_ fa fw cs fd rfm rt_ to_ rw_ wa (nI nt) rk rb cn br sm as_ go sh_ ir oa ob th ig sp_ ki tg of_ kp sf rs), (aI g fd 500 fb), (aI g to_ 25 tl), (aI g rk 7 rk_), (aI g rb 36 rb_), (aM g cn 7 (he_ro 7 r3)), (aM g br 7 (he_ro 7 r4))] (he_pl g L ln M)) rfl (he_ixP rfl) (he_ndP rfl rfl) (he_disN (by decide) rfl) (fun r_6 u_7 H locs h_8 hP hD hS => ?_)
      have hP := va_P.swap hP
      have hD := va_D.swap hD
      subst h_8
      have hP : va_P g.1 vwCl ([(aI g fd 500 fb), (aI g to_ 25 tl), (aI g rk 7 rk_), (aI g rb 36 rb_), (aM g cn 7 (he_ro 7 r3)), (aM g br 7 (he_ro 7 r4)), (oX11 m0 0 (nI ta) sz_ pl at_ fa fw cs fd rfm rt_ to_ rw_ wa (nI nt) rk rb cn br sm as_ go sh_ ir oa ob th ig sp_ ki tg of_ kp sf rs)] ++ he_pl g L ln M) H := hP
      have hD : va_D A ([(aI g fd 500 fb), (aI g to_ 25 tl), (aI g rk 7 rk_), (aI g rb 36 rb_), (aM g cn 7 (he_ro 7 r3)), (aM g br 7 (he_ro 7 r4)), (oX11 m0 0 (nI ta) sz_ pl at_ fa fw cs fd rfm rt_ to_ rw_ wa (nI nt) rk rb cn br sm as_ go sh_ ir oa ob th ig sp_ ki tg of_ kp sf rs)] ++ he_pl g L ln M) := hD
      refine lv_if_eq (tgt := 40) hx hb dX11_contract_35 (by decide) (fun c_9 => ?_) (fun c_9 => ?_)
      · refine lv_aload_n hx hb dX11_contract_40 rfl (lv_at hl 0 rfl) ?_
        refine lv_iload_n hx hb dX11_contract_41 rfl (lv_at hl 1 rfl) ?_
        refine he_cv (wc := [(oX11 m0 0 (nI ta) sz_ pl at_ fa fw cs fd rfm rt_ to_ rw_ wa (nI nt) rk rb cn br sm as_ go sh_ ir oa ob th ig sp_ ki tg of_ kp sf rs), (aI g fd 500 fb)]) (wr := ([(aI g to_ 25 tl), (aI g rk 7 rk_), (aI g rb 36 rb_), (aM g cn 7 (he_ro 7 r3)), (aM g br 7 (he_ro 7 r4))] ++ (he_pl g L ln M))) (va_runV (As := [.int (nI n)]) (rest := []) ⟨hx, hb, hml, hown, hts⟩ (q_X11_starts l g m0 fd rfm rt_ to_ rw_ wa rk rb cn br sm as_ go sh_ ki tg of_ kp rs (nI ta) sz_ pl at_ fa fw cs (nI nt) ir oa ob th ig sp_ sf 0 n fb T (by omega) (by first | assumption | decide | omega) H.size) (cwV 1 hts gX11_contract_X11_starts rfl rfl rfl (by decide +kernel) ⟨Nat.le_of_ble_eq_true rfl, Nat.le_of_ble_eq_true rfl⟩) (he_preV (wc := [(oX11 m0 0 (nI ta) sz_ pl at_ fa fw cs fd rfm rt_ to_ rw_ wa (nI nt) rk rb cn br sm as_ go sh_ ir oa ob th ig sp_ ki tg of_ kp sf rs), (aI g fd 500 fb)]) hK hP hD hS hA hE [6, 0] rfl rfl 6 rfl rfl) rfl rfl hl.1 rfl (lv_room (Nat.le_of_ble_eq_true rfl)) dX11_contract_42 ⟨(Nat.le_of_ble_eq_true rfl), (Nat.le_of_ble_eq_true rfl)⟩) hP hD hS hA [6, 0] (he_is [1, 2, 3, 4, 5] [(aI g fd 500 fb), (aI g to_ 25 tl), (aI g rk 7 rk_), (aI g rb 36 rb_), (aM g cn 7 (he_ro 7 r3)), (aM g br 7 (he_ro 7 r4)), (oX11 m0 0 (nI ta) sz_ pl at_ fa fw cs fd rfm rt_ to_ rw_ wa (nI nt) rk rb cn br sm as_ go sh_ ir oa ob th ig sp_ ki tg of_ kp sf rs)] (he_pl g L ln M)) rfl (he_ixP rfl) (he_ndP rfl rfl) (he_disN (by decide) rfl) (fun u_11 H locs h_12 hP hD hS => ?_)
        have hP := va_P.swap hP
        have hD := va_D.swap hD
        have hP : va_P g.1 vwCl ([(aI g to_ 25 tl), (aI g rk 7 rk_), (aI g rb 36 rb_), (aM g cn 7 (he_ro 7 r3)), (aM g br 7 (he_ro 7 r4)), (oX11 m0 0 0 (nI n) pl (nI (rn isBl T n 0)) 0 (-1) 0 fd rfm rt_ to_ rw_ wa (nI nt) rk rb cn br sm as_ go sh_ ir oa ob th ig sp_ ki tg of_ kp sf rs), (aI g fd 500 fb)] ++ he_pl g L ln M) H := hP
        have hD : va_D A ([(aI g to_ 25 tl), (aI g rk 7 rk_), (aI g rb 36 rb_), (aM g cn 7 (he_ro 7 r3)), (aM g br 7 (he_ro 7 r4)), (oX11 m0 0 0 (nI n) pl (nI (rn isBl T n 0)) 0 (-1) 0 fd rfm rt_ to_ rw_ wa (nI nt) rk rb cn br sm as_ go sh_ ir oa ob th ig sp_ ki tg of_ kp sf rs), (aI g fd 500 fb)] ++ he_pl g L ln M) := hD
        refine lv_aload_n hx hb dX11_contract_45 rfl (lv_at hl 0 rfl) ?_
        refine lv_iconst (v := (-1)) hx hb dX11_contract_46 (by decide) ?_
        refine va_put (v := .int (-1)) (ty := .int) (T := TX11) (N := 35) hx hb hts inX11 tyX11 tyX11_ok nmX11 hown hK hP hD hS 5 rfl rfl 3 (by decide) f9 (fun _ h9 => h9) rfl (by decide +kernel) rfl rfl (Nat.le_of_ble_eq_true rfl) dX11_contract_47 (fun H locs hP hD hS => ?_)
        have hP : va_P g.1 vwCl ([(aI g to_ 25 tl), (aI g rk 7 rk_), (aI g rb 36 rb_), (aM g cn 7 (he_ro 7 r3)), (aM g br 7 (he_ro 7 r4)), (oX11 m0 0 0 (nI n) (-1) (nI (rn isBl T n 0)) 0 (-1) 0 fd rfm rt_ to_ rw_ wa (nI nt) rk rb cn br sm as_ go sh_ ir oa ob th ig sp_ ki tg of_ kp sf rs), (aI g fd 500 fb)] ++ he_pl g L ln M) H := hP
        have hD : va_D A ([(aI g to_ 25 tl), (aI g rk 7 rk_), (aI g rb 36 rb_), (aM g cn 7 (he_ro 7 r3)), (aM g br 7 (he_ro 7 r4)), (oX11 m0 0 0 (nI n) (-1) (nI (rn isBl T n 0)) 0 (-1) 0 fd rfm rt_ to_ rw_ wa (nI nt) rk rb cn br sm as_ go sh_ ir oa ob th ig sp_ ki tg of_ kp sf rs), (aI g fd 500 fb)] ++ he_pl g L ln M) := hD
        refine lv_aload_n hx hb dX11_contract_50 rfl (lv_at hl 0 rfl) ?_
        refine va_get (v := .int (nI nt)) (T := TX11) (N := 35) hx hb hts inX11 hown hK hP 5 rfl rfl 14 (by decide) f162 (fun _ h9 => h9) rfl dX11_contract_51 ?_
        refine lv_bipush (v := 6) hx hb dX11_contract_54 (by decide) ?_
        refine lv_icmp_ne (tgt := 61) hx hb dX11_contract_56 (by decide) (fun c_13 => ?_) (fun c_13 => ?_)
        · have k_14 : ¬ (nt = 6) := fun h9 => c_13 ((he_ceq (a := nt) (b := 6) rfl (by decide) (by omega) (by omega)).mpr h9)
          refine lv_iconst (v := 0) hx hb dX11_contract_61 (by decide) ?_
          refine lv_istore_n (lv' := [(2, .int 0), (0, .ref m0), (1, .int (nI n))]) hx hb dX11_contract_62 rfl hl (by decide) rfl (fun ls hl => ?_)
          have loop63 : ∀ (n9 : Nat) (i1 : Nat), 7 - i1 < n9 → (i1 ≤ 7) → ∀ (H : Heap) (locs : List Loc) (ls : Array Slot), va_P g.1 vwCl ([(oX11 m0 0 0 (nI n) (-1) (nI (rn isBl T n 0)) 0 (-1) 0 fd rfm rt_ to_ rw_ wa (nI nt) rk rb cn br sm as_ go sh_ ir oa ob th ig sp_ ki tg of_ kp sf rs), (aI g fd 500 fb), (aI g to_ 25 tl), (aI g rk 7 (flF iniF rk_ i1)), (aI g rb 36 rb_), (aM g cn 7 (he_ro 7 r3)), (aM g br 7 (he_ro 7 r4))] ++ he_pl g L ln M) H → va_D A ([(oX11 m0 0 0 (nI n) (-1) (nI (rn isBl T n 0)) 0 (-1) 0 fd rfm rt_ to_ rw_ wa (nI nt) rk rb cn br sm as_ go sh_ ir oa ob th ig sp_ ki tg of_ kp sf rs), (aI g fd 500 fb), (aI g to_ 25 tl), (aI g rk 7 (flF iniF rk_ i1)), (aI g rb 36 rb_), (aM g cn 7 (he_ro 7 r3)), (aM g br 7 (he_ro 7 r4))] ++ he_pl g L ln M) → va_S A s.heap H locs → lv_has ls 3 [(0, .ref m0), (1, .int (nI n)), (2, .int (nI i1))] → W p l e (he_room 5 112 0 0) s m args below meth c H locs 0 0 Q (F0 m 63 ls []) := by
            intro n9
            induction n9 with
            | zero => intro i1 hm9; exact absurd hm9 (Nat.not_lt_zero _)
            | succ n9 ih63 =>
              intro i1 hm9 hi1 H locs ls hP hD hS hl
              refine lv_iload_n hx hb dX11_contract_63 rfl (lv_at hl 2 rfl) ?_
              refine lv_bipush (v := 7) hx hb dX11_contract_64 (by decide) ?_
              refine lv_icmp_ge (tgt := 111) hx hb dX11_contract_66 (by decide) (fun c_15 => ?_) (fun c_15 => ?_)
              · have k_16 : 7 ≤ i1 := (he_cle (a := 7) (b := i1) (by decide) rfl (by omega) (by omega)).mp c_15
                obtain rfl : i1 = 7 := by omega
                refine lv_iconst (v := 0) hx hb dX11_contract_111 (by decide) ?_
                refine lv_istore_n (lv' := [(2, .int 0), (0, .ref m0), (1, .int (nI n))]) hx hb dX11_contract_112 rfl hl (by decide) rfl (fun ls hl => ?_)
                have loop113 : ∀ (n9 : Nat) (i2 : Nat), 36 - i2 < n9 → (i2 ≤ 36) → ∀ (H : Heap) (locs : List Loc) (ls : Array Slot), va_P g.1 vwCl ([(oX11 m0 0 0 (nI n) (-1) (nI (rn isBl T n 0)) 0 (-1) 0 fd rfm rt_ to_ rw_ wa (nI nt) rk rb cn br sm as_ go sh_ ir oa ob th ig sp_ ki tg of_ kp sf rs), (aI g fd 500 fb), (aI g to_ 25 tl), (aI g rk 7 (flF iniF rk_ 7)), (aI g rb 36 (flF (fun _ => -1) rb_ i2)), (aM g cn 7 (he_ro 7 r3)), (aM g br 7 (he_ro 7 r4))] ++ he_pl g L ln M) H → va_D A ([(oX11 m0 0 0 (nI n) (-1) (nI (rn isBl T n 0)) 0 (-1) 0 fd rfm rt_ to_ rw_ wa (nI nt) rk rb cn br sm as_ go sh_ ir oa ob th ig sp_ ki tg of_ kp sf rs), (aI g fd 500 fb), (aI g to_ 25 tl), (aI g rk 7 (flF iniF rk_ 7)), (aI g rb 36 (flF (fun _ => -1) rb_ i2)), (aM g cn 7 (he_ro 7 r3)), (aM g br 7 (he_ro 7 r4))] ++ he_pl g L ln M) → va_S A s.heap H locs → lv_has ls 3 [(0, .ref m0), (1, .int (nI n)), (2, .int (nI i2))] → W p l e (he_room 5 112 0 0) s m args below meth c H locs 0 0 Q (F0 m 113 ls []) := by
                  intro n9
                  induction n9 with
                  | zero => intro i2 hm9; exact absurd hm9 (Nat.not_lt_zero _)
                  | succ n9 ih113 =>
                    intro i2 hm9 hi2 H locs ls hP hD hS hl
                    refine lv_iload_n hx hb dX11_contract_113 rfl (lv_at hl 2 rfl) ?_
                    refine lv_bipush (v := 36) hx hb dX11_contract_114 (by decide) ?_
                    refine lv_icmp_ge (tgt := 132) hx hb dX11_contract_116 (by decide) (fun c_17 => ?_) (fun c_17 => ?_)
                    · have k_18 : 36 ≤ i2 := (he_cle (a := 36) (b := i2) (by decide) rfl (by omega) (by omega)).mp c_17
                      obtain rfl : i2 = 36 := by omega
                      have loop132 : ∀ (n9 : Nat) (kj : Nat) (fj : Int32) (fg : Int32) (cj : Nat) (rkj : Nat → Int32) (rbj : Nat → Int32), (if fj = 0 then 21 - cj else 0) < n9 → (kj ≤ n) → (cj ≤ 20) → ((∃ wj : Nat, fj = 0 ∧ fg = -1 ∧ rn isBl T n kj = kj ∧ (txP T n wl5 (bd5 w) (fun b _ => fl5 b) (21 - cj) cj wj kj).1 = (txP T n wl5 (bd5 w) (fun b _ => fl5 b) 21 0 0 0).1 ∧ fdRl (txP T n wl5 (bd5 w) (fun b _ => fl5 b) (21 - cj) cj wj kj).2 rkj = fdRl (txP T n wl5 (bd5 w) (fun b _ => fl5 b) 21 0 0 0).2 (flF iniF rk_ 7) ∧ fdB (txP T n wl5 (bd5 w) (fun b _ => fl5 b) (21 - cj) cj wj kj).2 rbj = fdB (txP T n wl5 (bd5 w) (fun b _ => fl5 b) 21 0 0 0).2 (flF (fun _ => -1) rb_ 36)) ∨ (¬ fj = 0 ∧ fj = faC (txP T n wl5 (bd5 w) (fun b _ => fl5 b) 21 0 0 0).1 ∧ fg = faP (txP T n wl5 (bd5 w) (fun b _ => fl5 b) 21 0 0 0).1)) → ∀ (H : Heap) (locs : List Loc) (ls : Array Slot), va_P g.1 vwCl ([(oX11 m0 0 0 (nI n) (-1) (nI kj) fj fg (nI cj) fd rfm rt_ to_ rw_ wa (nI nt) rk rb cn br sm as_ go sh_ ir oa ob th ig sp_ ki tg of_ kp sf rs), (aI g fd 500 fb), (aI g to_ 25 tl), (aI g rk 7 rkj), (aI g rb 36 rbj), (aM g cn 7 (he_ro 7 r3)), (aM g br 7 (he_ro 7 r4))] ++ he_pl g L ln M) H → va_D A ([(oX11 m0 0 0 (nI n) (-1) (nI kj) fj fg (nI cj) fd rfm rt_ to_ rw_ wa (nI nt) rk rb cn br sm as_ go sh_ ir oa ob th ig sp_ ki tg of_ kp sf rs), (aI g fd 500 fb), (aI g to_ 25 tl), (aI g rk 7 rkj), (aI g rb 36 rbj), (aM g cn 7 (he_ro 7 r3)), (aM g br 7 (he_ro 7 r4))] ++ he_pl g L ln M) → va_S A s.heap H locs → lv_has ls 3 [(0, .ref m0), (1, .int (nI n))] → W p l e (he_room 5 112 0 0) s m args below meth c H locs 0 0 Q (F0 m 132 ls []) := by
                        intro n9
                        induction n9 with
                        | zero => intro kj fj fg cj rkj rbj hm9; exact absurd hm9 (Nat.not_lt_zero _)
                        | succ n9 ih132 =>
                          intro kj fj fg cj rkj rbj hm9 hkj hcj hDj H locs ls hP hD hS hl
                          refine lv_aload_n hx hb dX11_contract_132 rfl (lv_at hl 0 rfl) ?_
                          refine va_get (v := .int fj) (T := TX11) (N := 35) hx hb hts inX11 hown hK hP 0 rfl rfl 5 (by decide) f101 (fun _ h9 => h9) rfl dX11_contract_133 ?_
                          refine lv_if_ne (tgt := 161) hx hb dX11_contract_136 (by decide) (fun c_19 => ?_) (fun c_19 => ?_)
                          · have hD2 := hDj.resolve_left (fun h9 => by obtain ⟨_, h8, _⟩ := h9; exact c_19 h8)
                            refine lv_aload_n hx hb dX11_contract_161 rfl (lv_at hl 0 rfl) ?_
                            refine lv_aload_n hx hb dX11_contract_162 rfl (lv_at hl 0 rfl) ?_
                            refine va_get (v := .int fg) (T := TX11) (N := 35) hx hb hts inX11 hown hK hP 0 rfl rfl 6 (by decide) f104 (fun _ h9 => h9) rfl dX11_contract_163 ?_
                            refine va_put (v := .int fg) (ty := .int) (T := TX11) (N := 35) hx hb hts inX11 tyX11 tyX11_ok nmX11 hown hK hP hD hS 0 rfl rfl 3 (by decide) f9 (fun _ h9 => h9) rfl (by decide +kernel) rfl rfl (Nat.le_of_ble_eq_true rfl) dX11_contract_166 (fun H locs hP hD hS => ?_)
                            have hP : va_P g.1 vwCl ([(oX11 m0 0 0 (nI n) fg (nI kj) fj fg (nI cj) fd rfm rt_ to_ rw_ wa (nI nt) rk rb cn br sm as_ go sh_ ir oa ob th ig sp_ ki tg of_ kp sf rs), (aI g fd 500 fb), (aI g to_ 25 tl), (aI g rk 7 rkj), (aI g rb 36 rbj), (aM g cn 7 (he_ro 7 r3)), (aM g br 7 (he_ro 7 r4))] ++ he_pl g L ln M) H := hP
                            have hD : va_D A ([(oX11 m0 0 0 (nI n) fg (nI kj) fj fg (nI cj) fd rfm rt_ to_ rw_ wa (nI nt) rk rb cn br sm as_ go sh_ ir oa ob th ig sp_ ki tg of_ kp sf rs), (aI g fd 500 fb), (aI g to_ 25 tl), (aI g rk 7 rkj), (aI g rb 36 rbj), (aM g cn 7 (he_ro 7 r3)), (aM g br 7 (he_ro 7 r4))] ++ he_pl g L ln M) := hD
                            refine lv_aload_n hx hb dX11_contract_169 rfl (lv_at hl 0 rfl) ?_
                            refine va_get (v := .int fj) (T := TX11) (N := 35) hx hb hts inX11 hown hK hP 0 rfl rfl 5 (by decide) f101 (fun _ h9 => h9) rfl dX11_contract_170 ?_
                            refine lv_if_eq (tgt := 184) hx hb dX11_contract_173 (by decide) (fun c_20 => ?_) (fun c_20 => ?_)
                            · exact absurd c_20 c_19
                            · refine lv_aload_n hx hb dX11_contract_176 rfl (lv_at hl 0 rfl) ?_
                              refine va_get (v := .int fj) (T := TX11) (N := 35) hx hb hts inX11 hown hK hP 0 rfl rfl 5 (by decide) f101 (fun _ h9 => h9) rfl dX11_contract_177 ?_
                              refine lv_bipush (v := 10) hx hb dX11_contract_180 (by decide) ?_
                              refine lv_isub hx hb dX11_contract_182 ?_
                              exact he_ri hQ hx hb hr hlk hP hD hS dX11_contract_183 (Nat.le_of_ble_eq_true rfl) (Nat.le_of_ble_eq_true rfl) ((nt, kj, fj, fg, nI cj, fg, rkj, rbj, M)) (rfl) (by (try dsimp only); exact ⟨Or.inl ⟨rfl, rfl, Or.inr ⟨by (try dsimp only); omega, c_20, rfl⟩⟩, fun _ => ⟨hD2.2.1, hD2.2.2, hD2.2.2⟩, fun h9 => absurd h9 (by (try dsimp only); omega)⟩)
                          · obtain ⟨wj, _, hg0, hbl, hX1, hXd, hXb⟩ := hDj.resolve_right (fun h9 => h9.1 c_19)
                            refine lv_aload_n hx hb dX11_contract_139 rfl (lv_at hl 0 rfl) ?_
                            refine va_get (v := .int (nI kj)) (T := TX11) (N := 35) hx hb hts inX11 hown hK hP 0 rfl rfl 4 (by decide) f94 (fun _ h9 => h9) rfl dX11_contract_140 ?_
                            refine lv_aload_n hx hb dX11_contract_143 rfl (lv_at hl 0 rfl) ?_
                            refine va_get (v := .int (nI n)) (T := TX11) (N := 35) hx hb hts inX11 hown hK hP 0 rfl rfl 2 (by decide) f91 (fun _ h9 => h9) rfl dX11_contract_144 ?_
                            refine lv_icmp_ge (tgt := 161) hx hb dX11_contract_147 (by decide) (fun c_21 => ?_) (fun c_21 => ?_)
                            · have k_22 : n ≤ kj := (he_cle (a := n) (b := kj) rfl rfl (by omega) (by omega)).mp c_21
                              refine lv_aload_n hx hb dX11_contract_161 rfl (lv_at hl 0 rfl) ?_
                              refine lv_aload_n hx hb dX11_contract_162 rfl (lv_at hl 0 rfl) ?_
                              refine va_get (v := .int fg) (T := TX11) (N := 35) hx hb hts inX11 hown hK hP 0 rfl rfl 6 (by decide) f104 (fun _ h9 => h9) rfl dX11_contract_163 ?_
                              refine va_put (v := .int fg) (ty := .int) (T := TX11) (N := 35) hx hb hts inX11 tyX11 tyX11_ok nmX11 hown hK hP hD hS 0 rfl rfl 3 (by decide) f9 (fun _ h9 => h9) rfl (by decide +kernel) rfl rfl (Nat.le_of_ble_eq_true rfl) dX11_contract_166 (fun H locs hP hD hS => ?_)
                              have hP : va_P g.1 vwCl ([(oX11 m0 0 0 (nI n) fg (nI kj) fj fg (nI cj) fd rfm rt_ to_ rw_ wa (nI nt) rk rb cn br sm as_ go sh_ ir oa ob th ig sp_ ki tg of_ kp sf rs), (aI g fd 500 fb), (aI g to_ 25 tl), (aI g rk 7 rkj), (aI g rb 36 rbj), (aM g cn 7 (he_ro 7 r3)), (aM g br 7 (he_ro 7 r4))] ++ he_pl g L ln M) H := hP
                              have hD : va_D A ([(oX11 m0 0 0 (nI n) fg (nI kj) fj fg (nI cj) fd rfm rt_ to_ rw_ wa (nI nt) rk rb cn br sm as_ go sh_ ir oa ob th ig sp_ ki tg of_ kp sf rs), (aI g fd 500 fb), (aI g to_ 25 tl), (aI g rk 7 rkj), (aI g rb 36 rbj), (aM g cn 7 (he_ro 7 r3)), (aM g br 7 (he_ro 7 r4))] ++ he_pl g L ln M) := hD
                              refine lv_aload_n hx hb dX11_contract_169 rfl (lv_at hl 0 rfl) ?_
                              refine va_get (v := .int fj) (T := TX11) (N := 35) hx hb hts inX11 hown hK hP 0 rfl rfl 5 (by decide) f101 (fun _ h9 => h9) rfl dX11_contract_170 ?_
                              refine lv_if_eq (tgt := 184) hx hb dX11_contract_173 (by decide) (fun c_23 => ?_) (fun c_23 => ?_)
                              · have hf0 := c_23
                                have e9 : (txP T n wl5 (bd5 w) (fun b _ => fl5 b) (21 - cj) cj wj kj) = (none, []) := tx_e (by rw [hbl]; omega)
                                rw [e9] at hX1 hXd hXb
                                have hRK : rkj = fdRl (txP T n wl5 (bd5 w) (fun b _ => fl5 b) 21 0 0 0).2 (flF iniF rk_ 7) := hXd
                                have hRB : rbj = fdB (txP T n wl5 (bd5 w) (fun b _ => fl5 b) 21 0 0 0).2 (flF (fun _ => -1) rb_ 36) := hXb
                                have hcb1 : cOk rkj := by rw [hRK]; exact fd_c _ _ (tx_v _ _ _ _) (ini_c _)
                                have hcb2 : bOk rbj := by rw [hRB]; exact fd_b hw6 _ _ (tx_v _ _ _ _) (ini_b _)
                                refine lv_aload_n hx hb dX11_contract_184 rfl (lv_at hl 0 rfl) ?_
                                refine va_get (v := .ref rk) (T := TX11) (N := 35) hx hb hts inX11 hown hK hP 0 rfl rfl 15 (by decide) f34 (fun _ h9 => h9) rfl dX11_contract_185 ?_
                                refine lv_iconst (v := 1) hx hb dX11_contract_188 (by decide) ?_
                                refine lv_aload_n hx hb dX11_contract_189 rfl (lv_at hl 0 rfl) ?_
                                refine va_get (v := .ref rk) (T := TX11) (N := 35) hx hb hts inX11 hown hK hP 0 rfl rfl 15 (by decide) f34 (fun _ h9 => h9) rfl dX11_contract_190 ?_
                                refine lv_iconst (v := 1) hx hb dX11_contract_193 (by decide) ?_
                                refine he_iald hx hb hK hP 3 rfl (1) (by decide) (by decide) (by first | decide | assumption) (rkj 1) rfl dX11_contract_194 ?_
                                refine lv_iconst (v := (-1)) hx hb dX11_contract_195 (by decide) ?_
                                refine lv_icmp_ne (tgt := 208) hx hb dX11_contract_196 (by decide) (fun c_24 => ?_) (fun c_24 => ?_)
                                · refine lv_aload_n hx hb dX11_contract_208 rfl (lv_at hl 0 rfl) ?_
                                  refine va_get (v := .ref rk) (T := TX11) (N := 35) hx hb hts inX11 hown hK hP 0 rfl rfl 15 (by decide) f34 (fun _ h9 => h9) rfl dX11_contract_209 ?_
                                  refine lv_iconst (v := 1) hx hb dX11_contract_212 (by decide) ?_
                                  refine he_iald hx hb hK hP 3 rfl (1) (by decide) (by decide) (by first | decide | assumption) (rkj 1) rfl dX11_contract_213 ?_
                                  refine he_iast hx hb hK hP hD hS 3 rfl (1) (by decide) (by decide) (by first | decide | assumption) dX11_contract_214 (fun H locs hP hD hS => ?_)
                                  have hP : va_P g.1 vwCl ([(oX11 m0 0 0 (nI n) fg (nI kj) fj fg (nI cj) fd rfm rt_ to_ rw_ wa (nI nt) rk rb cn br sm as_ go sh_ ir oa ob th ig sp_ ki tg of_ kp sf rs), (aI g fd 500 fb), (aI g to_ 25 tl), (aI g rk 7 (upd rkj 1 (rkj 1))), (aI g rb 36 rbj), (aM g cn 7 (he_ro 7 r3)), (aM g br 7 (he_ro 7 r4))] ++ he_pl g L ln M) H := hP
                                  have hD : va_D A ([(oX11 m0 0 0 (nI n) fg (nI kj) fj fg (nI cj) fd rfm rt_ to_ rw_ wa (nI nt) rk rb cn br sm as_ go sh_ ir oa ob th ig sp_ ki tg of_ kp sf rs), (aI g fd 500 fb), (aI g to_ 25 tl), (aI g rk 7 (upd rkj 1 (rkj 1))), (aI g rb 36 rbj), (aM g cn 7 (he_ro 7 r3)), (aM g br 7 (he_ro 7 r4))] ++ he_pl g L ln M) := hD
                                  refine lv_iconst (v := 0) hx hb dX11_contract_215 (by decide) ?_
                                  refine lv_istore_n (lv' := [(2, .int 0), (0, .ref m0), (1, .int (nI n))]) hx hb dX11_contract_216 rfl hl (by decide) rfl (fun ls hl => ?_)
                                  have loop217 : ∀ (n9 : Nat) (i3 : Nat) (rkj3 : Nat → Int32) (Mj : Nat → Nat → Int32), 36 - i3 < n9 → (i3 ≤ 36) → (cOk rkj3) → (bOk rbj) → (rFill (r4 nt) rbj M Mj i3) → ∀ (H : Heap) (locs : List Loc) (ls : Array Slot), va_P g.1 vwCl ([(oX11 m0 0 0 (nI n) fg (nI kj) fj fg (nI cj) fd rfm rt_ to_ rw_ wa (nI nt) rk rb cn br sm as_ go sh_ ir oa ob th ig sp_ ki tg of_ kp sf rs), (aI g fd 500 fb), (aI g to_ 25 tl), (aI g rk 7 rkj3), (aI g rb 36 rbj), (aM g cn 7 (he_ro 7 r3)), (aM g br 7 (he_ro 7 r4))] ++ he_pl g L ln Mj) H → va_D A ([(oX11 m0 0 0 (nI n) fg (nI kj) fj fg (nI cj) fd rfm rt_ to_ rw_ wa (nI nt) rk rb cn br sm as_ go sh_ ir oa ob th ig sp_ ki tg of_ kp sf rs), (aI g fd 500 fb), (aI g to_ 25 tl), (aI g rk 7 rkj3), (aI g rb 36 rbj), (aM g cn 7 (he_ro 7 r3)), (aM g br 7 (he_ro 7 r4))] ++ he_pl g L ln Mj) → va_S A s.heap H locs → lv_has ls 3 [(0, .ref m0), (1, .int (nI n)), (2, .int (nI i3))] → W p l e (he_room 5 112 0 0) s m args below meth c H locs 0 0 Q (F0 m 217 ls []) := by
                                    intro n9
                                    induction n9 with
                                    | zero => intro i3 rkj3 Mj hm9; exact absurd hm9 (Nat.not_lt_zero _)
                                    | succ n9 ih217 =>
                                      intro i3 rkj3 Mj hm9 hi3 hck hbk hy H locs ls hP hD hS hl
                                      refine lv_iload_n hx hb dX11_contract_217 rfl (lv_at hl 2 rfl) ?_
                                      refine lv_bipush (v := 36) hx hb dX11_contract_218 (by decide) ?_
                                      refine lv_icmp_ge (tgt := 271) hx hb dX11_contract_220 (by decide) (fun c_25 => ?_) (fun c_25 => ?_)
                                      · have k_26 : 36 ≤ i3 := (he_cle (a := 36) (b := i3) (by decide) rfl (by omega) (by omega)).mp c_25
                                        obtain rfl : i3 = 36 := by omega
                                        refine lv_iconst (v := 0) hx hb dX11_contract_271 (by decide) ?_
                                        refine lv_istore_n (lv' := [(2, .int 0), (0, .ref m0), (1, .int (nI n))]) hx hb dX11_contract_272 rfl hl (by decide) rfl (fun ls hl => ?_)
                                        have loop273 : ∀ (n9 : Nat) (i4 : Nat) (M7 : Nat → Nat → Int32), 7 - i4 < n9 → (i4 ≤ 7) → (rFill (r3 nt) rkj3 Mj M7 i4) → ∀ (H : Heap) (locs : List Loc) (ls : Array Slot), va_P g.1 vwCl ([(oX11 m0 0 0 (nI n) fg (nI kj) fj fg (nI cj) fd rfm rt_ to_ rw_ wa (nI nt) rk rb cn br sm as_ go sh_ ir oa ob th ig sp_ ki tg of_ kp sf rs), (aI g fd 500 fb), (aI g to_ 25 tl), (aI g rk 7 rkj3), (aI g rb 36 rbj), (aM g cn 7 (he_ro 7 r3)), (aM g br 7 (he_ro 7 r4))] ++ he_pl g L ln M7) H → va_D A ([(oX11 m0 0 0 (nI n) fg (nI kj) fj fg (nI cj) fd rfm rt_ to_ rw_ wa (nI nt) rk rb cn br sm as_ go sh_ ir oa ob th ig sp_ ki tg of_ kp sf rs), (aI g fd 500 fb), (aI g to_ 25 tl), (aI g rk 7 rkj3), (aI g rb 36 rbj), (aM g cn 7 (he_ro 7 r3)), (aM g br 7 (he_ro 7 r4))] ++ he_pl g L ln M7) → va_S A s.heap H locs → lv_has ls 3 [(0, .ref m0), (1, .int (nI n)), (2, .int (nI i4))] → W p l e (he_room 5 112 0 0) s m args below meth c H locs 0 0 Q (F0 m 273 ls []) := by
                                          intro n9
                                          induction n9 with
                                          | zero => intro i4 M7 hm9; exact absurd hm9 (Nat.not_lt_zero _)
                                          | succ n9 ih273 =>
                                            intro i4 M7 hm9 hi4 hz H locs ls hP hD hS hl
                                            refine lv_iload_n hx hb dX11_contract_273 rfl (lv_at hl 2 rfl) ?_
                                            refine lv_bipush (v := 7) hx hb dX11_contract_274 (by decide) ?_
                                            refine lv_icmp_ge (tgt := 302) hx hb dX11_contract_276 (by decide) (fun c_27 => ?_) (fun c_27 => ?_)
                                            · have k_28 : 7 ≤ i4 := (he_cle (a := 7) (b := i4) (by decide) rfl (by omega) (by omega)).mp c_27
                                              obtain rfl : i4 = 7 := by omega
                                              refine lv_aload_n hx hb dX11_contract_302 rfl (lv_at hl 0 rfl) ?_
                                              refine lv_dup hx hb dX11_contract_303 rfl ?_
                                              refine va_get (v := .int (nI nt)) (T := TX11) (N := 35) hx hb hts inX11 hown hK hP 0 rfl rfl 14 (by decide) f162 (fun _ h9 => h9) rfl dX11_contract_304 ?_
                                              refine lv_iconst (v := 1) hx hb dX11_contract_307 (by decide) ?_
                                              refine lv_iadd hx hb dX11_contract_308 ?_
                                              refine he_top (nI (nt + 1)) (nI_add nt 1) ?_
                                              refine va_put (v := .int (nI (nt + 1))) (ty := .int) (T := TX11) (N := 35) hx hb hts inX11 tyX11 tyX11_ok nmX11 hown hK hP hD hS 0 rfl rfl 14 (by decide) f162 (fun _ h9 => h9) rfl (by decide +kernel) rfl rfl (Nat.le_of_ble_eq_true rfl) dX11_contract_309 (fun H locs hP hD hS => ?_)
                                              have hP : va_P g.1 vwCl ([(oX11 m0 0 0 (nI n) fg (nI kj) fj fg (nI cj) fd rfm rt_ to_ rw_ wa (nI (nt + 1)) rk rb cn br sm as_ go sh_ ir oa ob th ig sp_ ki tg of_ kp sf rs), (aI g fd 500 fb), (aI g to_ 25 tl), (aI g rk 7 rkj3), (aI g rb 36 rbj), (aM g cn 7 (he_ro 7 r3)), (aM g br 7 (he_ro 7 r4))] ++ he_pl g L ln M7) H := hP
                                              have hD : va_D A ([(oX11 m0 0 0 (nI n) fg (nI kj) fj fg (nI cj) fd rfm rt_ to_ rw_ wa (nI (nt + 1)) rk rb cn br sm as_ go sh_ ir oa ob th ig sp_ ki tg of_ kp sf rs), (aI g fd 500 fb), (aI g to_ 25 tl), (aI g rk 7 rkj3), (aI g rb 36 rbj), (aM g cn 7 (he_ro 7 r3)), (aM g br 7 (he_ro 7 r4))] ++ he_pl g L ln M7) := hD
                                              refine lv_aload_n hx hb dX11_contract_312 rfl (lv_at hl 0 rfl) ?_
                                              refine va_get (v := .int (nI (nt + 1))) (T := TX11) (N := 35) hx hb hts inX11 hown hK hP 0 rfl rfl 14 (by decide) f162 (fun _ h9 => h9) rfl dX11_contract_313 ?_
                                              refine lv_iconst (v := 1) hx hb dX11_contract_316 (by decide) ?_
                                              refine lv_isub hx hb dX11_contract_317 ?_
                                              refine he_top (nI nt) (nI_pred nt) ?_
                                              exact he_ri hQ hx hb hr hlk hP hD hS dX11_contract_318 (Nat.le_of_ble_eq_true rfl) (Nat.le_of_ble_eq_true rfl) ((nt + 1, kj, fj, fg, nI cj, fg, rkj3, rbj, M7)) (rfl) (by (try dsimp only); exact ⟨Or.inr ⟨by (try dsimp only); omega, rfl, cOk_eq hck (fun b hb => hz.1 b (by (try dsimp only); omega)), bOk_eq hbk (fun b hb => by (try dsimp only); rw [hz.2 _ (fun h9 => D_r3_r4 nt nt (by (try dsimp only); omega) (by (try dsimp only); omega) h9.symm)]; exact hy.1 b (by (try dsimp only); omega)), fun a h1 h2 => by (try dsimp only); rw [hz.2 a h1, hy.2 a h2], hf0, rfl⟩, fun _ => ⟨by rw [← hX1]; exact hf0, by rw [← hX1]; exact hg0, by rw [← hX1]; exact hg0⟩, fun h9 => absurd h9 (by (try dsimp only); omega)⟩)
                                            · have k_29 : ¬ (7 ≤ i4) := fun h9 => c_27 ((he_cle (a := 7) (b := i4) (by decide) rfl (by omega) (by omega)).mpr h9)
                                              refine lv_aload_n hx hb dX11_contract_279 rfl (lv_at hl 0 rfl) ?_
                                              refine va_get (v := .ref cn) (T := TX11) (N := 35) hx hb hts inX11 hown hK hP 0 rfl rfl 17 (by decide) f40 (fun _ h9 => h9) rfl dX11_contract_280 ?_
                                              refine lv_aload_n hx hb dX11_contract_283 rfl (lv_at hl 0 rfl) ?_
                                              refine va_get (v := .int (nI nt)) (T := TX11) (N := 35) hx hb hts inX11 hown hK hP 0 rfl rfl 14 (by decide) f162 (fun _ h9 => h9) rfl dX11_contract_284 ?_
                                              refine he_aldm hx hb hK hP 5 rfl (nt) rfl (by first | assumption | decide | omega) (by decide) dX11_contract_287 ?_
                                              refine lv_iload_n hx hb dX11_contract_288 rfl (lv_at hl 2 rfl) ?_
                                              refine lv_aload_n hx hb dX11_contract_289 rfl (lv_at hl 0 rfl) ?_
                                              refine va_get (v := .ref rk) (T := TX11) (N := 35) hx hb hts inX11 hown hK hP 0 rfl rfl 15 (by decide) f34 (fun _ h9 => h9) rfl dX11_contract_290 ?_
                                              refine lv_iload_n hx hb dX11_contract_293 rfl (lv_at hl 2 rfl) ?_
                                              refine he_iald hx hb hK hP 3 rfl (i4) rfl (by first | assumption | decide | omega) (by first | decide | assumption) (rkj3 i4) rfl dX11_contract_294 ?_
                                              refine he_past hx hb hK hP hD hS (F_r3 nt (by first | assumption | decide | omega)).1 (i4) rfl (by rw [(F_r3 nt (by first | assumption | decide | omega)).2.1]; exact (by first | assumption | decide | omega)) (by rw [(F_r3 nt (by first | assumption | decide | omega)).2.1]; decide) dX11_contract_295 (fun H locs hP hD hS => ?_)
                                              have hP : va_P g.1 vwCl ([(oX11 m0 0 0 (nI n) fg (nI kj) fj fg (nI cj) fd rfm rt_ to_ rw_ wa (nI nt) rk rb cn br sm as_ go sh_ ir oa ob th ig sp_ ki tg of_ kp sf rs), (aI g fd 500 fb), (aI g to_ 25 tl), (aI g rk 7 rkj3), (aI g rb 36 rbj), (aM g cn 7 (he_ro 7 r3)), (aM g br 7 (he_ro 7 r4))] ++ he_pl g L ln (va_up M7 (r3 nt) (upd (M7 (r3 nt)) i4 (rkj3 i4)))) H := hP
                                              have hD : va_D A ([(oX11 m0 0 0 (nI n) fg (nI kj) fj fg (nI cj) fd rfm rt_ to_ rw_ wa (nI nt) rk rb cn br sm as_ go sh_ ir oa ob th ig sp_ ki tg of_ kp sf rs), (aI g fd 500 fb), (aI g to_ 25 tl), (aI g rk 7 rkj3), (aI g rb 36 rbj), (aM g cn 7 (he_ro 7 r3)), (aM g br 7 (he_ro 7 r4))] ++ he_pl g L ln (va_up M7 (r3 nt) (upd (M7 (r3 nt)) i4 (rkj3 i4)))) := hD
                                              refine lv_iinc (v := nI (i4 + 1)) (lv' := [(2, .int (nI (i4 + 1))), (0, .ref m0), (1, .int (nI n))]) hx hb dX11_contract_296 hl (k := 2) rfl (nI_1 i4) (by decide) rfl (fun ls hl => ?_)
                                              refine lv_goto (tgt := 273) hx hb dX11_contract_299 (by decide) ?_
                                              exact ih273 (i4 + 1) (va_up M7 (r3 nt) (upd (M7 (r3 nt)) i4 (rkj3 i4))) (by omega) (by omega) (rFill_s hz) _ _ _ hP hD hS (lv_sub hl [1, 2, 0] rfl)
                                        exact loop273 ((7 - 0) + 1) 0 Mj (Nat.lt_succ_self _) (Nat.zero_le _) (rFill_0 _ _ _) _ _ _ hP hD hS (lv_sub hl [1, 2, 0] rfl)
                                      · have k_30 : ¬ (36 ≤ i3) := fun h9 => c_25 ((he_cle (a := 36) (b := i3) (by decide) rfl (by omega) (by omega)).mpr h9)
                                        refine lv_aload_n hx hb dX11_contract_223 rfl (lv_at hl 0 rfl) ?_
                                        refine va_get (v := .ref br) (T := TX11) (N := 35) hx hb hts inX11 hown hK hP 0 rfl rfl 18 (by decide) f43 (fun _ h9 => h9) rfl dX11_contract_224 ?_
                                        refine lv_aload_n hx hb dX11_contract_227 rfl (lv_at hl 0 rfl) ?_
                                        refine va_get (v := .int (nI nt)) (T := TX11) (N := 35) hx hb hts inX11 hown hK hP 0 rfl rfl 14 (by decide) f162 (fun _ h9 => h9) rfl dX11_contract_228 ?_
                                        refine he_aldm hx hb hK hP 6 rfl (nt) rfl (by first | assumption | decide | omega) (by decide) dX11_contract_231 ?_
                                        refine lv_iload_n hx hb dX11_contract_232 rfl (lv_at hl 2 rfl) ?_
                                        refine lv_aload_n hx hb dX11_contract_233 rfl (lv_at hl 0 rfl) ?_
                                        refine va_get (v := .ref rb) (T := TX11) (N := 35) hx hb hts inX11 hown hK hP 0 rfl rfl 16 (by decide) f37 (fun _ h9 => h9) rfl dX11_contract_234 ?_
                                        refine lv_iload_n hx hb dX11_contract_237 rfl (lv_at hl 2 rfl) ?_
                                        refine he_iald hx hb hK hP 4 rfl (i3) rfl (by first | assumption | decide | omega) (by first | decide | assumption) (rbj i3) rfl dX11_contract_238 ?_
                                        refine he_past hx hb hK hP hD hS (F_r4 nt (by first | assumption | decide | omega)).1 (i3) rfl (by rw [(F_r4 nt (by first | assumption | decide | omega)).2.1]; exact (by first | assumption | decide | omega)) (by rw [(F_r4 nt (by first | assumption | decide | omega)).2.1]; decide) dX11_contract_239 (fun H locs hP hD hS => ?_)
                                        have hP : va_P g.1 vwCl ([(oX11 m0 0 0 (nI n) fg (nI kj) fj fg (nI cj) fd rfm rt_ to_ rw_ wa (nI nt) rk rb cn br sm as_ go sh_ ir oa ob th ig sp_ ki tg of_ kp sf rs), (aI g fd 500 fb), (aI g to_ 25 tl), (aI g rk 7 rkj3), (aI g rb 36 rbj), (aM g cn 7 (he_ro 7 r3)), (aM g br 7 (he_ro 7 r4))] ++ he_pl g L ln (va_up Mj (r4 nt) (upd (Mj (r4 nt)) i3 (rbj i3)))) H := hP
                                        have hD : va_D A ([(oX11 m0 0 0 (nI n) fg (nI kj) fj fg (nI cj) fd rfm rt_ to_ rw_ wa (nI nt) rk rb cn br sm as_ go sh_ ir oa ob th ig sp_ ki tg of_ kp sf rs), (aI g fd 500 fb), (aI g to_ 25 tl), (aI g rk 7 rkj3), (aI g rb 36 rbj), (aM g cn 7 (he_ro 7 r3)), (aM g br 7 (he_ro 7 r4))] ++ he_pl g L ln (va_up Mj (r4 nt) (upd (Mj (r4 nt)) i3 (rbj i3)))) := hD
                                        refine lv_aload_n hx hb dX11_contract_240 rfl (lv_at hl 0 rfl) ?_
                                        refine va_get (v := .ref rk) (T := TX11) (N := 35) hx hb hts inX11 hown hK hP 0 rfl rfl 15 (by decide) f34 (fun _ h9 => h9) rfl dX11_contract_241 ?_
                                        refine lv_bipush (v := 6) hx hb dX11_contract_244 (by decide) ?_
                                        refine lv_dup2_11 hx hb dX11_contract_246 rfl rfl ?_
                                        refine he_iald hx hb hK hP 3 rfl (6) (by decide) (by decide) (by first | decide | assumption) (rkj3 6) rfl dX11_contract_247 ?_
                                        refine lv_aload_n hx hb dX11_contract_248 rfl (lv_at hl 0 rfl) ?_
                                        refine va_get (v := .ref rb) (T := TX11) (N := 35) hx hb hts inX11 hown hK hP 0 rfl rfl 16 (by decide) f37 (fun _ h9 => h9) rfl dX11_contract_249 ?_
                                        refine lv_iload_n hx hb dX11_contract_252 rfl (lv_at hl 2 rfl) ?_
                                        refine he_iald hx hb hK hP 4 rfl (i3) rfl (by first | assumption | decide | omega) (by first | decide | assumption) (rbj i3) rfl dX11_contract_253 ?_
                                        refine lv_iconst (v := (-1)) hx hb dX11_contract_254 (by decide) ?_
                                        refine lv_icmp_ne (tgt := 262) hx hb dX11_contract_255 (by decide) (fun c_31 => ?_) (fun c_31 => ?_)
                                        · refine lv_iconst (v := 1) hx hb dX11_contract_262 (by decide) ?_
                                          refine lv_iadd hx hb dX11_contract_263 ?_
                                          refine he_iast hx hb hK hP hD hS 3 rfl (6) (by decide) (by decide) (by first | decide | assumption) dX11_contract_264 (fun H locs hP hD hS => ?_)
                                          have hP : va_P g.1 vwCl ([(oX11 m0 0 0 (nI n) fg (nI kj) fj fg (nI cj) fd rfm rt_ to_ rw_ wa (nI nt) rk rb cn br sm as_ go sh_ ir oa ob th ig sp_ ki tg of_ kp sf rs), (aI g fd 500 fb), (aI g to_ 25 tl), (aI g rk 7 (upd rkj3 6 ((rkj3 6) + 1))), (aI g rb 36 rbj), (aM g cn 7 (he_ro 7 r3)), (aM g br 7 (he_ro 7 r4))] ++ he_pl g L ln (va_up Mj (r4 nt) (upd (Mj (r4 nt)) i3 (rbj i3)))) H := hP
                                          have hD : va_D A ([(oX11 m0 0 0 (nI n) fg (nI kj) fj fg (nI cj) fd rfm rt_ to_ rw_ wa (nI nt) rk rb cn br sm as_ go sh_ ir oa ob th ig sp_ ki tg of_ kp sf rs), (aI g fd 500 fb), (aI g to_ 25 tl), (aI g rk 7 (upd rkj3 6 ((rkj3 6) + 1))), (aI g rb 36 rbj), (aM g cn 7 (he_ro 7 r3)), (aM g br 7 (he_ro 7 r4))] ++ he_pl g L ln (va_up Mj (r4 nt) (upd (Mj (r4 nt)) i3 (rbj i3)))) := hD
                                          refine lv_iinc (v := nI (i3 + 1)) (lv' := [(2, .int (nI (i3 + 1))), (0, .ref m0), (1, .int (nI n))]) hx hb dX11_contract_265 hl (k := 2) rfl (nI_1 i3) (by decide) rfl (fun ls hl => ?_)
                                          refine lv_goto (tgt := 217) hx hb dX11_contract_268 (by decide) ?_
                                          exact ih217 (i3 + 1) (upd rkj3 6 ((rkj3 6) + 1)) (va_up Mj (r4 nt) (upd (Mj (r4 nt)) i3 (rbj i3))) (by omega) (by omega) (cOk_upd hck (fun e9 => absurd e9 (by decide)) (fun e9 => absurd e9 (by decide)) (fun e9 => absurd e9 (by decide))) hbk (rFill_s hy) _ _ _ hP hD hS (lv_sub hl [1, 2, 0] rfl)
                                        · refine lv_iconst (v := 0) hx hb dX11_contract_258 (by decide) ?_
                                          refine lv_goto (tgt := 263) hx hb dX11_contract_259 (by decide) ?_
                                          refine lv_iadd hx hb dX11_contract_263 ?_
                                          refine he_iast hx hb hK hP hD hS 3 rfl (6) (by decide) (by decide) (by first | decide | assumption) dX11_contract_264 (fun H locs hP hD hS => ?_)
                                          have hP : va_P g.1 vwCl ([(oX11 m0 0 0 (nI n) fg (nI kj) fj fg (nI cj) fd rfm rt_ to_ rw_ wa (nI nt) rk rb cn br sm as_ go sh_ ir oa ob th ig sp_ ki tg of_ kp sf rs), (aI g fd 500 fb), (aI g to_ 25 tl), (aI g rk 7 (upd rkj3 6 ((rkj3 6) + 0))), (aI g rb 36 rbj), (aM g cn 7 (he_ro 7 r3)), (aM g br 7 (he_ro 7 r4))] ++ he_pl g L ln (va_up Mj (r4 nt) (upd (Mj (r4 nt)) i3 (rbj i3)))) H := hP
                                          have hD : va_D A ([(oX11 m0 0 0 (nI n) fg (nI kj) fj fg (nI cj) fd rfm rt_ to_ rw_ wa (nI nt) rk rb cn br sm as_ go sh_ ir oa ob th ig sp_ ki tg of_ kp sf rs), (aI g fd 500 fb), (aI g to_ 25 tl), (aI g rk 7 (upd rkj3 6 ((rkj3 6) + 0))), (aI g rb 36 rbj), (aM g cn 7 (he_ro 7 r3)), (aM g br 7 (he_ro 7 r4))] ++ he_pl g L ln (va_up Mj (r4 nt) (upd (Mj (r4 nt)) i3 (rbj i3)))) := hD
                                          refine lv_iinc (v := nI (i3 + 1)) (lv' := [(2, .int (nI (i3 + 1))), (0, .ref m0), (1, .int (nI n))]) hx hb dX11_contract_265 hl (k := 2) rfl (nI_1 i3) (by decide) rfl (fun ls hl => ?_)
                                          refine lv_goto (tgt := 217) hx hb dX11_contract_268 (by decide) ?_
                                          exact ih217 (i3 + 1) (upd rkj3 6 ((rkj3 6) + 0)) (va_up Mj (r4 nt) (upd (Mj (r4 nt)) i3 (rbj i3))) (by omega) (by omega) (cOk_upd hck (fun e9 => absurd e9 (by decide)) (fun e9 => absurd e9 (by decide)) (fun e9 => absurd e9 (by decide))) hbk (rFill_s hy) _ _ _ hP hD hS (lv_sub hl [1, 2, 0] rfl)
                                  exact loop217 ((36 - 0) + 1) 0 (upd rkj 1 (rkj 1)) M (Nat.lt_succ_self _) (Nat.zero_le _) (cOk_upd hcb1 (fun e9 => absurd e9 (by decide)) (fun e9 => absurd e9 (by decide)) (fun e9 => absurd e9 (by decide))) hcb2 (rFill_0 _ _ _) _ _ _ hP hD hS (lv_sub hl [1, 2, 0] rfl)
                                · refine lv_aload_n hx hb dX11_contract_199 rfl (lv_at hl 0 rfl) ?_
                                  refine va_get (v := .ref rk) (T := TX11) (N := 35) hx hb hts inX11 hown hK hP 0 rfl rfl 15 (by decide) f34 (fun _ h9 => h9) rfl dX11_contract_200 ?_
                                  refine lv_iconst (v := 0) hx hb dX11_contract_203 (by decide) ?_
                                  refine he_iald hx hb hK hP 3 rfl (0) (by decide) (by decide) (by first | decide | assumption) (rkj 0) rfl dX11_contract_204 ?_
                                  refine lv_goto (tgt := 214) hx hb dX11_contract_205 (by decide) ?_
                                  refine he_iast hx hb hK hP hD hS 3 rfl (1) (by decide) (by decide) (by first | decide | assumption) dX11_contract_214 (fun H locs hP hD hS => ?_)
                                  have hP : va_P g.1 vwCl ([(oX11 m0 0 0 (nI n) fg (nI kj) fj fg (nI cj) fd rfm rt_ to_ rw_ wa (nI nt) rk rb cn br sm as_ go sh_ ir oa ob th ig sp_ ki tg of_ kp sf rs), (aI g fd 500 fb), (aI g to_ 25 tl), (aI g rk 7 (upd rkj 1 (rkj 0))), (aI g rb 36 rbj), (aM g cn 7 (he_ro 7 r3)), (aM g br 7 (he_ro 7 r4))] ++ he_pl g L ln M) H := hP
                                  have hD : va_D A ([(oX11 m0 0 0 (nI n) fg (nI kj) fj fg (nI cj) fd rfm rt_ to_ rw_ wa (nI nt) rk rb cn br sm as_ go sh_ ir oa ob th ig sp_ ki tg of_ kp sf rs), (aI g fd 500 fb), (aI g to_ 25 tl), (aI g rk 7 (upd rkj 1 (rkj 0))), (aI g rb 36 rbj), (aM g cn 7 (he_ro 7 r3)), (aM g br 7 (he_ro 7 r4))] ++ he_pl g L ln M) := hD
                                  refine lv_iconst (v := 0) hx hb dX11_contract_215 (by decide) ?_
                                  refine lv_istore_n (lv' := [(2, .int 0), (0, .ref m0), (1, .int (nI n))]) hx hb dX11_contract_216 rfl hl (by decide) rfl (fun ls hl => ?_)
                                  have loop217 : ∀ (n9 : Nat) (i3 : Nat) (rkj3 : Nat → Int32) (Mj : Nat → Nat → Int32), 36 - i3 < n9 → (i3 ≤ 36) → (cOk rkj3) → (bOk rbj) → (rFill (r4 nt) rbj M Mj i3) → ∀ (H : Heap) (locs : List Loc) (ls : Array Slot), va_P g.1 vwCl ([(oX11 m0 0 0 (nI n) fg (nI kj) fj fg (nI cj) fd rfm rt_ to_ rw_ wa (nI nt) rk rb cn br sm as_ go sh_ ir oa ob th ig sp_ ki tg of_ kp sf rs), (aI g fd 500 fb), (aI g to_ 25 tl), (aI g rk 7 rkj3), (aI g rb 36 rbj), (aM g cn 7 (he_ro 7 r3)), (aM g br 7 (he_ro 7 r4))] ++ he_pl g L ln Mj) H → va_D A ([(oX11 m0 0 0 (nI n) fg (nI kj) fj fg (nI cj) fd rfm rt_ to_ rw_ wa (nI nt) rk rb cn br sm as_ go sh_ ir oa ob th ig sp_ ki tg of_ kp sf rs), (aI g fd 500 fb), (aI g to_ 25 tl), (aI g rk 7 rkj3), (aI g rb 36 rbj), (aM g cn 7 (he_ro 7 r3)), (aM g br 7 (he_ro 7 r4))] ++ he_pl g L ln Mj) → va_S A s.heap H locs → lv_has ls 3 [(0, .ref m0), (1, .int (nI n)), (2, .int (nI i3))] → W p l e (he_room 5 112 0 0) s m args below meth c H locs 0 0 Q (F0 m 217 ls []) := by
                                    intro n9
                                    induction n9 with
                                    | zero => intro i3 rkj3 Mj hm9; exact absurd hm9 (Nat.not_lt_zero _)
                                    | succ n9 ih217 =>
                                      intro i3 rkj3 Mj hm9 hi3 hck hbk hy H locs ls hP hD hS hl
                                      refine lv_iload_n hx hb dX11_contract_217 rfl (lv_at hl 2 rfl) ?_
                                      refine lv_bipush (v := 36) hx hb dX11_contract_218 (by decide) ?_
                                      refine lv_icmp_ge (tgt := 271) hx hb dX11_contract_220 (by decide) (fun c_32 => ?_) (fun c_32 => ?_)
                                      · have k_33 : 36 ≤ i3 := (he_cle (a := 36) (b := i3) (by decide) rfl (by omega) (by omega)).mp c_32
                                        obtain rfl : i3 = 36 := by omega
                                        refine lv_iconst (v := 0) hx hb dX11_contract_271 (by decide) ?_
                                        refine lv_istore_n (lv' := [(2, .int 0), (0, .ref m0), (1, .int (nI n))]) hx hb dX11_contract_272 rfl hl (by decide) rfl (fun ls hl => ?_)
                                        have loop273 : ∀ (n9 : Nat) (i4 : Nat) (M7 : Nat → Nat → Int32), 7 - i4 < n9 → (i4 ≤ 7) → (rFill (r3 nt) rkj3 Mj M7 i4) → ∀ (H : Heap) (locs : List Loc) (ls : Array Slot), va_P g.1 vwCl ([(oX11 m0 0 0 (nI n) fg (nI kj) fj fg (nI cj) fd rfm rt_ to_ rw_ wa (nI nt) rk rb cn br sm as_ go sh_ ir oa ob th ig sp_ ki tg of_ kp sf rs), (aI g fd 500 fb), (aI g to_ 25 tl), (aI g rk 7 rkj3), (aI g rb 36 rbj), (aM g cn 7 (he_ro 7 r3)), (aM g br 7 (he_ro 7 r4))] ++ he_pl g L ln M7) H → va_D A ([(oX11 m0 0 0 (nI n) fg (nI kj) fj fg (nI cj) fd rfm rt_ to_ rw_ wa (nI nt) rk rb cn br sm as_ go sh_ ir oa ob th ig sp_ ki tg of_ kp sf rs), (aI g fd 500 fb), (aI g to_ 25 tl), (aI g rk 7 rkj3), (aI g rb 36 rbj), (aM g cn 7 (he_ro 7 r3)), (aM g br 7 (he_ro 7 r4))] ++ he_pl g L ln M7) → va_S A s.heap H locs → lv_has ls 3 [(0, .ref m0), (1, .int (nI n)), (2, .int (nI i4))] → W p l e (he_room 5 112 0 0) s m args below meth c H locs 0 0 Q (F0 m 273 ls []) := by
                                          intro n9
                                          induction n9 with
                                          | zero => intro i4 M7 hm9; exact absurd hm9 (Nat.not_lt_zero _)
                                          | succ n9 ih273 =>
                                            intro i4 M7 hm9 hi4 hz H locs ls hP hD hS hl
                                            refine lv_iload_n hx hb dX11_contract_273 rfl (lv_at hl 2 rfl) ?_
                                            refine lv_bipush (v := 7) hx hb dX11_contract_274 (by decide) ?_
                                            refine lv_icmp_ge (tgt := 302) hx hb dX11_contract_276 (by decide) (fun c_34 => ?_) (fun c_34 => ?_)
                                            · have k_35 : 7 ≤ i4 := (he_cle (a := 7) (b := i4) (by decide) rfl (by omega) (by omega)).mp c_34
                                              obtain rfl : i4 = 7 := by omega
                                              refine lv_aload_n hx hb dX11_contract_302 rfl (lv_at hl 0 rfl) ?_
                                              refine lv_dup hx hb dX11_contract_303 rfl ?_
                                              refine va_get (v := .int (nI nt)) (T := TX11) (N := 35) hx hb hts inX11 hown hK hP 0 rfl rfl 14 (by decide) f162 (fun _ h9 => h9) rfl dX11_contract_304 ?_
                                              refine lv_iconst (v := 1) hx hb dX11_contract_307 (by decide) ?_
                                              refine lv_iadd hx hb dX11_contract_308 ?_
                                              refine he_top (nI (nt + 1)) (nI_add nt 1) ?_
                                              refine va_put (v := .int (nI (nt + 1))) (ty := .int) (T := TX11) (N := 35) hx hb hts inX11 tyX11 tyX11_ok nmX11 hown hK hP hD hS 0 rfl rfl 14 (by decide) f162 (fun _ h9 => h9) rfl (by decide +kernel) rfl rfl (Nat.le_of_ble_eq_true rfl) dX11_contract_309 (fun H locs hP hD hS => ?_)
                                              have hP : va_P g.1 vwCl ([(oX11 m0 0 0 (nI n) fg (nI kj) fj fg (nI cj) fd rfm rt_ to_ rw_ wa (nI (nt + 1)) rk rb cn br sm as_ go sh_ ir oa ob th ig sp_ ki tg of_ kp sf rs), (aI g fd 500 fb), (aI g to_ 25 tl), (aI g rk 7 rkj3), (aI g rb 36 rbj), (aM g cn 7 (he_ro 7 r3)), (aM g br 7 (he_ro 7 r4))] ++ he_pl g L ln M7) H := hP
                                              have hD : va_D A ([(oX11 m0 0 0 (nI n) fg (nI kj) fj fg (nI cj) fd rfm rt_ to_ rw_ wa (nI (nt + 1)) rk rb cn br sm as_ go sh_ ir oa ob th ig sp_ ki tg of_ kp sf rs), (aI g fd 500 fb), (aI g to_ 25 tl), (aI g rk 7 rkj3), (aI g rb 36 rbj), (aM g cn 7 (he_ro 7 r3)), (aM g br 7 (he_ro 7 r4))] ++ he_pl g L ln M7) := hD
                                              refine lv_aload_n hx hb dX11_contract_312 rfl (lv_at hl 0 rfl) ?_
                                              refine va_get (v := .int (nI (nt + 1))) (T := TX11) (N := 35) hx hb hts inX11 hown hK hP 0 rfl rfl 14 (by decide) f162 (fun _ h9 => h9) rfl dX11_contract_313 ?_
                                              refine lv_iconst (v := 1) hx hb dX11_contract_316 (by decide) ?_
                                              refine lv_isub hx hb dX11_contract_317 ?_
                                              refine he_top (nI nt) (nI_pred nt) ?_
                                              exact he_ri hQ hx hb hr hlk hP hD hS dX11_contract_318 (Nat.le_of_ble_eq_true rfl) (Nat.le_of_ble_eq_true rfl) ((nt + 1, kj, fj, fg, nI cj, fg, rkj3, rbj, M7)) (rfl) (by (try dsimp only); exact ⟨Or.inr ⟨by (try dsimp only); omega, rfl, cOk_eq hck (fun b hb => hz.1 b (by (try dsimp only); omega)), bOk_eq hbk (fun b hb => by (try dsimp only); rw [hz.2 _ (fun h9 => D_r3_r4 nt nt (by (try dsimp only); omega) (by (try dsimp only); omega) h9.symm)]; exact hy.1 b (by (try dsimp only); omega)), fun a h1 h2 => by (try dsimp only); rw [hz.2 a h1, hy.2 a h2], hf0, rfl⟩, fun _ => ⟨by rw [← hX1]; exact hf0, by rw [← hX1]; exact hg0, by rw [← hX1]; exact hg0⟩, fun h9 => absurd h9 (by (try dsimp only); omega)⟩)
                                            · have k_36 : ¬ (7 ≤ i4) := fun h9 => c_34 ((he_cle (a := 7) (b := i4) (by decide) rfl (by omega) (by omega)).mpr h9)
                                              refine lv_aload_n hx hb dX11_contract_279 rfl (lv_at hl 0 rfl) ?_
                                              refine va_get (v := .ref cn) (T := TX11) (N := 35) hx hb hts inX11 hown hK hP 0 rfl rfl 17 (by decide) f40 (fun _ h9 => h9) rfl dX11_contract_280 ?_
                                              refine lv_aload_n hx hb dX11_contract_283 rfl (lv_at hl 0 rfl) ?_
                                              refine va_get (v := .int (nI nt)) (T := TX11) (N := 35) hx hb hts inX11 hown hK hP 0 rfl rfl 14 (by decide) f162 (fun _ h9 => h9) rfl dX11_contract_284 ?_
                                              refine he_aldm hx hb hK hP 5 rfl (nt) rfl (by first | assumption | decide | omega) (by decide) dX11_contract_287 ?_
                                              refine lv_iload_n hx hb dX11_contract_288 rfl (lv_at hl 2 rfl) ?_
                                              refine lv_aload_n hx hb dX11_contract_289 rfl (lv_at hl 0 rfl) ?_
                                              refine va_get (v := .ref rk) (T := TX11) (N := 35) hx hb hts inX11 hown hK hP 0 rfl rfl 15 (by decide) f34 (fun _ h9 => h9) rfl dX11_contract_290 ?_
                                              refine lv_iload_n hx hb dX11_contract_293 rfl (lv_at hl 2 rfl) ?_
                                              refine he_iald hx hb hK hP 3 rfl (i4) rfl (by first | assumption | decide | omega) (by first | decide | assumption) (rkj3 i4) rfl dX11_contract_294 ?_
                                              refine he_past hx hb hK hP hD hS (F_r3 nt (by first | assumption | decide | omega)).1 (i4) rfl (by rw [(F_r3 nt (by first | assumption | decide | omega)).2.1]; exact (by first | assumption | decide | omega)) (by rw [(F_r3 nt (by first | assumption | decide | omega)).2.1]; decide) dX11_contract_295 (fun H locs hP hD hS => ?_)
                                              have hP : va_P g.1 vwCl ([(oX11 m0 0 0 (nI n) fg (nI kj) fj fg (nI cj) fd rfm rt_ to_ rw_ wa (nI nt) rk rb cn br sm as_ go sh_ ir oa ob th ig sp_ ki tg of_ kp sf rs), (aI g fd 500 fb), (aI g to_ 25 tl), (aI g rk 7 rkj3), (aI g rb 36 rbj), (aM g cn 7 (he_ro 7 r3)), (aM g br 7 (he_ro 7 r4))] ++ he_pl g L ln (va_up M7 (r3 nt) (upd (M7 (r3 nt)) i4 (rkj3 i4)))) H := hP
                                              have hD : va_D A ([(oX11 m0 0 0 (nI n) fg (nI kj) fj fg (nI cj) fd rfm rt_ to_ rw_ wa (nI nt) rk rb cn br sm as_ go sh_ ir oa ob th ig sp_ ki tg of_ kp sf rs), (aI g fd 500 fb), (aI g to_ 25 tl), (aI g rk 7 rkj3), (aI g rb 36 rbj), (aM g cn 7 (he_ro 7 r3)), (aM g br 7 (he_ro 7 r4))] ++ he_pl g L ln (va_up M7 (r3 nt) (upd (M7 (r3 nt)) i4 (rkj3 i4)))) := hD
                                              refine lv_iinc (v := nI (i4 + 1)) (lv' := [(2, .int (nI (i4 + 1))), (0, .ref m0), (1, .int (nI n))]) hx hb dX11_contract_296 hl (k := 2) rfl (nI_1 i4) (by decide) rfl (fun ls hl => ?_)
                                              refine lv_goto (tgt := 273) hx hb dX11_contract_299 (by decide) ?_
                                              exact ih273 (i4 + 1) (va_up M7 (r3 nt) (upd (M7 (r3 nt)) i4 (rkj3 i4))) (by omega) (by omega) (rFill_s hz) _ _ _ hP hD hS (lv_sub hl [1, 2, 0] rfl)
                                        exact loop273 ((7 - 0) + 1) 0 Mj (Nat.lt_succ_self _) (Nat.zero_le _) (rFill_0 _ _ _) _ _ _ hP hD hS (lv_sub hl [1, 2, 0] rfl)
                                      · have k_37 : ¬ (36 ≤ i3) := fun h9 => c_32 ((he_cle (a := 36) (b := i3) (by decide) rfl (by omega) (by omega)).mpr h9)
                                        refine lv_aload_n hx hb dX11_contract_223 rfl (lv_at hl 0 rfl) ?_
                                        refine va_get (v := .ref br) (T := TX11) (N := 35) hx hb hts inX11 hown hK hP 0 rfl rfl 18 (by decide) f43 (fun _ h9 => h9) rfl dX11_contract_224 ?_
                                        refine lv_aload_n hx hb dX11_contract_227 rfl (lv_at hl 0 rfl) ?_
                                        refine va_get (v := .int (nI nt)) (T := TX11) (N := 35) hx hb hts inX11 hown hK hP 0 rfl rfl 14 (by decide) f162 (fun _ h9 => h9) rfl dX11_contract_228 ?_
                                        refine he_aldm hx hb hK hP 6 rfl (nt) rfl (by first | assumption | decide | omega) (by decide) dX11_contract_231 ?_
                                        refine lv_iload_n hx hb dX11_contract_232 rfl (lv_at hl 2 rfl) ?_
                                        refine lv_aload_n hx hb dX11_contract_233 rfl (lv_at hl 0 rfl) ?_
                                        refine va_get (v := .ref rb) (T := TX11) (N := 35) hx hb hts inX11 hown hK hP 0 rfl rfl 16 (by decide) f37 (fun _ h9 => h9) rfl dX11_contract_234 ?_
                                        refine lv_iload_n hx hb dX11_contract_237 rfl (lv_at hl 2 rfl) ?_
                                        refine he_iald hx hb hK hP 4 rfl (i3) rfl (by first | assumption | decide | omega) (by first | decide | assumption) (rbj i3) rfl dX11_contract_238 ?_
                                        refine he_past hx hb hK hP hD hS (F_r4 nt (by first | assumption | decide | omega)).1 (i3) rfl (by rw [(F_r4 nt (by first | assumption | decide | omega)).2.1]; exact (by first | assumption | decide | omega)) (by rw [(F_r4 nt (by first | assumption | decide | omega)).2.1]; decide) dX11_contract_239 (fun H locs hP hD hS => ?_)
                                        have hP : va_P g.1 vwCl ([(oX11 m0 0 0 (nI n) fg (nI kj) fj fg (nI cj) fd rfm rt_ to_ rw_ wa (nI nt) rk rb cn br sm as_ go sh_ ir oa ob th ig sp_ ki tg of_ kp sf rs), (aI g fd 500 fb), (aI g to_ 25 tl), (aI g rk 7 rkj3), (aI g rb 36 rbj), (aM g cn 7 (he_ro 7 r3)), (aM g br 7 (he_ro 7 r4))] ++ he_pl g L ln (va_up Mj (r4 nt) (upd (Mj (r4 nt)) i3 (rbj i3)))) H := hP
                                        have hD : va_D A ([(oX11 m0 0 0 (nI n) fg (nI kj) fj fg (nI cj) fd rfm rt_ to_ rw_ wa (nI nt) rk rb cn br sm as_ go sh_ ir oa ob th ig sp_ ki tg of_ kp sf rs), (aI g fd 500 fb), (aI g to_ 25 tl), (aI g rk 7 rkj3), (aI g rb 36 rbj), (aM g cn 7 (he_ro 7 r3)), (aM g br 7 (he_ro 7 r4))] ++ he_pl g L ln (va_up Mj (r4 nt) (upd (Mj (r4 nt)) i3 (rbj i3)))) := hD
                                        refine lv_aload_n hx hb dX11_contract_240 rfl (lv_at hl 0 rfl) ?_
                                        refine va_get (v := .ref rk) (T := TX11) (N := 35) hx hb hts inX11 hown hK hP 0 rfl rfl 15 (by decide) f34 (fun _ h9 => h9) rfl dX11_contract_241 ?_
                                        refine lv_bipush (v := 6) hx hb dX11_contract_244 (by decide) ?_
                                        refine lv_dup2_11 hx hb dX11_contract_246 rfl rfl ?_
                                        refine he_iald hx hb hK hP 3 rfl (6) (by decide) (by decide) (by first | decide | assumption) (rkj3 6) rfl dX11_contract_247 ?_
                                        refine lv_aload_n hx hb dX11_contract_248 rfl (lv_at hl 0 rfl) ?_
                                        refine va_get (v := .ref rb) (T := TX11) (N := 35) hx hb hts inX11 hown hK hP 0 rfl rfl 16 (by decide) f37 (fun _ h9 => h9) rfl dX11_contract_249 ?_
                                        refine lv_iload_n hx hb dX11_contract_252 rfl (lv_at hl 2 rfl) ?_
                                        refine he_iald hx hb hK hP 4 rfl (i3) rfl (by first | assumption | decide | omega) (by first | decide | assumption) (rbj i3) rfl dX11_contract_253 ?_
                                        refine lv_iconst (v := (-1)) hx hb dX11_contract_254 (by decide) ?_
                                        refine lv_icmp_ne (tgt := 262) hx hb dX11_contract_255 (by decide) (fun c_38 => ?_) (fun c_38 => ?_)
                                        · refine lv_iconst (v := 1) hx hb dX11_contract_262 (by decide) ?_
                                          refine lv_iadd hx hb dX11_contract_263 ?_
                                          refine he_iast hx hb hK hP hD hS 3 rfl (6) (by decide) (by decide) (by first | decide | assumption) dX11_contract_264 (fun H locs hP hD hS => ?_)
                                          have hP : va_P g.1 vwCl ([(oX11 m0 0 0 (nI n) fg (nI kj) fj fg (nI cj) fd rfm rt_ to_ rw_ wa (nI nt) rk rb cn br sm as_ go sh_ ir oa ob th ig sp_ ki tg of_ kp sf rs), (aI g fd 500 fb), (aI g to_ 25 tl), (aI g rk 7 (upd rkj3 6 ((rkj3 6) + 1))), (aI g rb 36 rbj), (aM g cn 7 (he_ro 7 r3)), (aM g br 7 (he_ro 7 r4))] ++ he_pl g L ln (va_up Mj (r4 nt) (upd (Mj (r4 nt)) i3 (rbj i3)))) H := hP
                                          have hD : va_D A ([(oX11 m0 0 0 (nI n) fg (nI kj) fj fg (nI cj) fd rfm rt_ to_ rw_ wa (nI nt) rk rb cn br sm as_ go sh_ ir oa ob th ig sp_ ki tg of_ kp sf rs), (aI g fd 500 fb), (aI g to_ 25 tl), (aI g rk 7 (upd rkj3 6 ((rkj3 6) + 1))), (aI g rb 36 rbj), (aM g cn 7 (he_ro 7 r3)), (aM g br 7 (he_ro 7 r4))] ++ he_pl g L ln (va_up Mj (r4 nt) (upd (Mj (r4 nt)) i3 (rbj i3)))) := hD
                                          refine lv_iinc (v := nI (i3 + 1)) (lv' := [(2, .int (nI (i3 + 1))), (0, .ref m0), (1, .int (nI n))]) hx hb dX11_contract_265 hl (k := 2) rfl (nI_1 i3) (by decide) rfl (fun ls hl => ?_)
                                          refine lv_goto (tgt := 217) hx hb dX11_contract_268 (by decide) ?_
                                          exact ih217 (i3 + 1) (upd rkj3 6 ((rkj3 6) + 1)) (va_up Mj (r4 nt) (upd (Mj (r4 nt)) i3 (rbj i3))) (by omega) (by omega) (cOk_upd hck (fun e9 => absurd e9 (by decide)) (fun e9 => absurd e9 (by decide)) (fun e9 => absurd e9 (by decide))) hbk (rFill_s hy) _ _ _ hP hD hS (lv_sub hl [1, 2, 0] rfl)
                                        · refine lv_iconst (v := 0) hx hb dX11_contract_258 (by decide) ?_
                                          refine lv_goto (tgt := 263) hx hb dX11_contract_259 (by decide) ?_
                                          refine lv_iadd hx hb dX11_contract_263 ?_
                                          refine he_iast hx hb hK hP hD hS 3 rfl (6) (by decide) (by decide) (by first | decide | assumption) dX11_contract_264 (fun H locs hP hD hS => ?_)
                                          have hP : va_P g.1 vwCl ([(oX11 m0 0 0 (nI n) fg (nI kj) fj fg (nI cj) fd rfm rt_ to_ rw_ wa (nI nt) rk rb cn br sm as_ go sh_ ir oa ob th ig sp_ ki tg of_ kp sf rs), (aI g fd 500 fb), (aI g to_ 25 tl), (aI g rk 7 (upd rkj3 6 ((rkj3 6) + 0))), (aI g rb 36 rbj), (aM g cn 7 (he_ro 7 r3)), (aM g br 7 (he_ro 7 r4))] ++ he_pl g L ln (va_up Mj (r4 nt) (upd (Mj (r4 nt)) i3 (rbj i3)))) H := hP
                                          have hD : va_D A ([(oX11 m0 0 0 (nI n) fg (nI kj) fj fg (nI cj) fd rfm rt_ to_ rw_ wa (nI nt) rk rb cn br sm as_ go sh_ ir oa ob th ig sp_ ki tg of_ kp sf rs), (aI g fd 500 fb), (aI g to_ 25 tl), (aI g rk 7 (upd rkj3 6 ((rkj3 6) + 0))), (aI g rb 36 rbj), (aM g cn 7 (he_ro 7 r3)), (aM g br 7 (he_ro 7 r4))] ++ he_pl g L ln (va_up Mj (r4 nt) (upd (Mj (r4 nt)) i3 (rbj i3)))) := hD
                                          refine lv_iinc (v := nI (i3 + 1)) (lv' := [(2, .int (nI (i3 + 1))), (0, .ref m0), (1, .int (nI n))]) hx hb dX11_contract_265 hl (k := 2) rfl (nI_1 i3) (by decide) rfl (fun ls hl => ?_)
                                          refine lv_goto (tgt := 217) hx hb dX11_contract_268 (by decide) ?_
                                          exact ih217 (i3 + 1) (upd rkj3 6 ((rkj3 6) + 0)) (va_up Mj (r4 nt) (upd (Mj (r4 nt)) i3 (rbj i3))) (by omega) (by omega) (cOk_upd hck (fun e9 => absurd e9 (by decide)) (fun e9 => absurd e9 (by decide)) (fun e9 => absurd e9 (by decide))) hbk (rFill_s hy) _ _ _ hP hD hS (lv_sub hl [1, 2, 0] rfl)
                                  exact loop217 ((36 - 0) + 1) 0 (upd rkj 1 (rkj 0)) M (Nat.lt_succ_self _) (Nat.zero_le _) (cOk_upd hcb1 (fun e9 => absurd e9 (by decide)) (fun e9 => absurd e9 (by decide)) (fun e9 => absurd e9 (by decide))) hcb2 (rFill_0 _ _ _) _ _ _ hP hD hS (lv_sub hl [1, 2, 0] rfl)
                              · exact absurd c_19 c_23
                            · have k_39 : ¬ (n ≤ kj) := fun h9 => c_21 ((he_cle (a := n) (b := kj) rfl rfl (by omega) (by omega)).mpr h9)
                              refine lv_aload_n hx hb dX11_contract_150 rfl (lv_at hl 0 rfl) ?_
                              refine he_cv (wc := [(oX11 m0 0 0 (nI n) (-1) (nI kj) fj fg (nI cj) fd rfm rt_ to_ rw_ wa (nI nt) rk rb cn br sm as_ go sh_ ir oa ob th ig sp_ ki tg of_ kp sf rs), (aI g fd 500 fb), (aI g to_ 25 tl), (aI g rk 7 rkj), (aI g rb 36 rbj)]) (wr := ([(aM g cn 7 (he_ro 7 r3)), (aM g br 7 (he_ro 7 r4))] ++ (he_pl g L ln M))) (va_runV (As := []) (rest := []) ⟨hx, hb, hml, hown, hts⟩ (q_X11_rules l g m0 fd rfm rt_ to_ rw_ wa rk rb cn br sm as_ go sh_ ki tg of_ kp rs 0 (-1) (nI nt) ir oa ob th ig sp_ sf 0 n kj fg cj fb tl rkj rbj w T fj (by omega) hkj c_19 (by first | assumption | decide | omega) hbl htl hw6 hcj H.size) (cwV 0 hts gX11_contract_X11_rules rfl rfl rfl (by decide +kernel) ⟨Nat.le_of_ble_eq_true rfl, Nat.le_of_ble_eq_true rfl⟩) (he_preV (wc := [(oX11 m0 0 0 (nI n) (-1) (nI kj) fj fg (nI cj) fd rfm rt_ to_ rw_ wa (nI nt) rk rb cn br sm as_ go sh_ ir oa ob th ig sp_ ki tg of_ kp sf rs), (aI g fd 500 fb), (aI g to_ 25 tl), (aI g rk 7 rkj), (aI g rb 36 rbj)]) hK hP hD hS hA hE [0, 1, 2, 3, 4] rfl rfl 0 rfl rfl) rfl rfl hl.1 rfl (lv_room (Nat.le_of_ble_eq_true rfl)) dX11_contract_151 ⟨(Nat.le_of_ble_eq_true rfl), (Nat.le_of_ble_eq_true rfl)⟩) hP hD hS hA [0, 1, 2, 3, 4] (he_is [5, 6] [(oX11 m0 0 0 (nI n) (-1) (nI kj) fj fg (nI cj) fd rfm rt_ to_ rw_ wa (nI nt) rk rb cn br sm as_ go sh_ ir oa ob th ig sp_ ki tg of_ kp sf rs), (aI g fd 500 fb), (aI g to_ 25 tl), (aI g rk 7 rkj), (aI g rb 36 rbj), (aM g cn 7 (he_ro 7 r3)), (aM g br 7 (he_ro 7 r4))] (he_pl g L ln M)) rfl (he_ixP rfl) (he_ndP rfl rfl) (he_disN (by decide) rfl) (fun u_41 H locs h_42 hP hD hS => ?_)
                              have hP := va_P.swap hP
                              have hD := va_D.swap hD
                              obtain ⟨k2_43, fb2_44, fw2_45, cs2_46, rk2_47, rb2_48⟩ := u_41
                              try dsimp only at h_42
                              obtain ⟨hf_49, hf_50, hf_51⟩ := h_42
                              have hP : va_P g.1 vwCl ([(aM g cn 7 (he_ro 7 r3)), (aM g br 7 (he_ro 7 r4)), (oX11 m0 0 0 (nI n) (-1) (nI k2_43) fb2_44 fw2_45 (nI cs2_46) fd rfm rt_ to_ rw_ wa (nI nt) rk rb cn br sm as_ go sh_ ir oa ob th ig sp_ ki tg of_ kp sf rs), (aI g fd 500 fb), (aI g to_ 25 tl), (aI g rk 7 rk2_47), (aI g rb 36 rb2_48)] ++ he_pl g L ln M) H := hP
                              have hD : va_D A ([(aM g cn 7 (he_ro 7 r3)), (aM g br 7 (he_ro 7 r4)), (oX11 m0 0 0 (nI n) (-1) (nI k2_43) fb2_44 fw2_45 (nI cs2_46) fd rfm rt_ to_ rw_ wa (nI nt) rk rb cn br sm as_ go sh_ ir oa ob th ig sp_ ki tg of_ kp sf rs), (aI g fd 500 fb), (aI g to_ 25 tl), (aI g rk 7 rk2_47), (aI g rb 36 rb2_48)] ++ he_pl g L ln M) := hD
                              have hD3 := ct_D (by omega) hbl hg0 hX1 hXd hXb hcj hf_49 hf_50
                              refine lv_aload_n hx hb dX11_contract_154 rfl (lv_at hl 0 rfl) ?_
                              refine he_cv (wc := [(oX11 m0 0 0 (nI n) (-1) (nI k2_43) fb2_44 fw2_45 (nI cs2_46) fd rfm rt_ to_ rw_ wa (nI nt) rk rb cn br sm as_ go sh_ ir oa ob th ig sp_ ki tg of_ kp sf rs), (aI g fd 500 fb)]) (wr := ([(aM g cn 7 (he_ro 7 r3)), (aM g br 7 (he_ro 7 r4)), (aI g to_ 25 tl), (aI g rk 7 rk2_47), (aI g rb 36 rb2_48)] ++ (he_pl g L ln M))) (va_runV (As := []) (rest := []) ⟨hx, hb, hml, hown, hts⟩ (q_X11_blanks l g m0 fd rfm rt_ to_ rw_ wa rk rb cn br sm as_ go sh_ ki tg of_ kp rs 0 (-1) (nI cs2_46) (nI nt) ir oa ob th ig sp_ sf 0 n k2_43 fb2_44 fw2_45 fb T (by omega) hf_49 (by first | assumption | decide | omega) H.size) (cwV 0 hts gX11_contract_X11_blanks rfl rfl rfl (by decide +kernel) ⟨Nat.le_of_ble_eq_true rfl, Nat.le_of_ble_eq_true rfl⟩) (he_preV (wc := [(oX11 m0 0 0 (nI n) (-1) (nI k2_43) fb2_44 fw2_45 (nI cs2_46) fd rfm rt_ to_ rw_ wa (nI nt) rk rb cn br sm as_ go sh_ ir oa ob th ig sp_ ki tg of_ kp sf rs), (aI g fd 500 fb)]) hK hP hD hS hA hE [2, 3] rfl rfl 2 rfl rfl) rfl rfl hl.1 rfl (lv_room (Nat.le_of_ble_eq_true rfl)) dX11_contract_155 ⟨(Nat.le_of_ble_eq_true rfl), (Nat.le_of_ble_eq_true rfl)⟩) hP hD hS hA [2, 3] (he_is [0, 1, 4, 5, 6] [(aM g cn 7 (he_ro 7 r3)), (aM g br 7 (he_ro 7 r4)), (oX11 m0 0 0 (nI n) (-1) (nI k2_43) fb2_44 fw2_45 (nI cs2_46) fd rfm rt_ to_ rw_ wa (nI nt) rk rb cn br sm as_ go sh_ ir oa ob th ig sp_ ki tg of_ kp sf rs), (aI g fd 500 fb), (aI g to_ 25 tl), (aI g rk 7 rk2_47), (aI g rb 36 rb2_48)] (he_pl g L ln M)) rfl (he_ixP rfl) (he_ndP rfl rfl) (he_disN (by decide) rfl) (fun u_53 H locs h_54 hP hD hS => ?_)
                              have hP := va_P.swap hP
                              have hD := va_D.swap hD
                              have hP : va_P g.1 vwCl ([(aM g cn 7 (he_ro 7 r3)), (aM g br 7 (he_ro 7 r4)), (aI g to_ 25 tl), (aI g rk 7 rk2_47), (aI g rb 36 rb2_48), (oX11 m0 0 0 (nI n) (-1) (nI (rn isBl T n k2_43)) fb2_44 fw2_45 (nI cs2_46) fd rfm rt_ to_ rw_ wa (nI nt) rk rb cn br sm as_ go sh_ ir oa ob th ig sp_ ki tg of_ kp sf rs), (aI g fd 500 fb)] ++ he_pl g L ln M) H := hP
                              have hD : va_D A ([(aM g cn 7 (he_ro 7 r3)), (aM g br 7 (he_ro 7 r4)), (aI g to_ 25 tl), (aI g rk 7 rk2_47), (aI g rb 36 rb2_48), (oX11 m0 0 0 (nI n) (-1) (nI (rn isBl T n k2_43)) fb2_44 fw2_45 (nI cs2_46) fd rfm rt_ to_ rw_ wa (nI nt) rk rb cn br sm as_ go sh_ ir oa ob th ig sp_ ki tg of_ kp sf rs), (aI g fd 500 fb)] ++ he_pl g L ln M) := hD
                              refine lv_goto (tgt := 132) hx hb dX11_contract_158 (by decide) ?_
                              have hP := he_Psub (X := [(aM g cn 7 (he_ro 7 r3)), (aM g br 7 (he_ro 7 r4)), (aI g to_ 25 tl), (aI g rk 7 rk2_47), (aI g rb 36 rb2_48), (oX11 m0 0 0 (nI n) (-1) (nI (rn isBl T n k2_43)) fb2_44 fw2_45 (nI cs2_46) fd rfm rt_ to_ rw_ wa (nI nt) rk rb cn br sm as_ go sh_ ir oa ob th ig sp_ ki tg of_ kp sf rs), (aI g fd 500 fb)]) (X2 := [(oX11 m0 0 0 (nI n) (-1) (nI (rn isBl T n k2_43)) fb2_44 fw2_45 (nI cs2_46) fd rfm rt_ to_ rw_ wa (nI nt) rk rb cn br sm as_ go sh_ ir oa ob th ig sp_ ki tg of_ kp sf rs), (aI g fd 500 fb), (aI g to_ 25 tl), (aI g rk 7 rk2_47), (aI g rb 36 rb2_48), (aM g cn 7 (he_ro 7 r3)), (aM g br 7 (he_ro 7 r4))]) (P := (he_pl g L ln M)) hP [5, 6, 2, 3, 4, 0, 1] rfl
                              have hD := he_Dsub (X := [(aM g cn 7 (he_ro 7 r3)), (aM g br 7 (he_ro 7 r4)), (aI g to_ 25 tl), (aI g rk 7 rk2_47), (aI g rb 36 rb2_48), (oX11 m0 0 0 (nI n) (-1) (nI (rn isBl T n k2_43)) fb2_44 fw2_45 (nI cs2_46) fd rfm rt_ to_ rw_ wa (nI nt) rk rb cn br sm as_ go sh_ ir oa ob th ig sp_ ki tg of_ kp sf rs), (aI g fd 500 fb)]) (X2 := [(oX11 m0 0 0 (nI n) (-1) (nI (rn isBl T n k2_43)) fb2_44 fw2_45 (nI cs2_46) fd rfm rt_ to_ rw_ wa (nI nt) rk rb cn br sm as_ go sh_ ir oa ob th ig sp_ ki tg of_ kp sf rs), (aI g fd 500 fb), (aI g to_ 25 tl), (aI g rk 7 rk2_47), (aI g rb 36 rb2_48), (aM g cn 7 (he_ro 7 r3)), (aM g br 7 (he_ro 7 r4))]) (P := (he_pl g L ln M)) hD [5, 6, 2, 3, 4, 0, 1] rfl rfl rfl
                              exact ih132 (rn isBl T n k2_43) fb2_44 fw2_45 cs2_46 rk2_47 rb2_48 (lp_meas5 c_19 hD3.2 hf_51 hcj hm9) (rn_le hf_49) hf_51 hD3.1 _ _ _ hP hD hS (lv_sub hl [0, 1] rfl)
                      exact loop132 (((if 0 = 0 then 21 - 0 else 0)) + 1) (rn isBl T n 0) 0 (-1) 0 (flF iniF rk_ 7) (flF (fun _ => -1) rb_ 36) (Nat.lt_succ_self _) (rn_le (Nat.zero_le _)) (by decide) (Or.inl ⟨0, rfl, rfl, rn_id isBl (Nat.zero_le _), by rw [tx_b (Nat.zero_le _)], by rw [tx_b (Nat.zero_le _)], by rw [tx_b (Nat.zero_le _)]⟩) _ _ _ hP hD hS (lv_sub hl [0, 1] rfl)
                    · have k_55 : ¬ (36 ≤ i2) := fun h9 => c_17 ((he_cle (a := 36) (b := i2) (by decide) rfl (by omega) (by omega)).mpr h9)
                      refine lv_aload_n hx hb dX11_contract_119 rfl (lv_at hl 0 rfl) ?_
                      refine va_get (v := .ref rb) (T := TX11) (N := 35) hx hb hts inX11 hown hK hP 0 rfl rfl 16 (by decide) f37 (fun _ h9 => h9) rfl dX11_contract_120 ?_
                      refine lv_iload_n hx hb dX11_contract_123 rfl (lv_at hl 2 rfl) ?_
                      refine lv_iconst (v := (-1)) hx hb dX11_contract_124 (by decide) ?_
                      refine he_iast hx hb hK hP hD hS 4 rfl (i2) rfl (by first | assumption | decide | omega) (by first | decide | assumption) dX11_contract_125 (fun H locs hP hD hS => ?_)
                      have hP : va_P g.1 vwCl ([(oX11 m0 0 0 (nI n) (-1) (nI (rn isBl T n 0)) 0 (-1) 0 fd rfm rt_ to_ rw_ wa (nI nt) rk rb cn br sm as_ go sh_ ir oa ob th ig sp_ ki tg of_ kp sf rs), (aI g fd 500 fb), (aI g to_ 25 tl), (aI g rk 7 (flF iniF rk_ 7)), (aI g rb 36 (upd (flF (fun _ => -1) rb_ i2) i2 (-1))), (aM g cn 7 (he_ro 7 r3)), (aM g br 7 (he_ro 7 r4))] ++ he_pl g L ln M) H := hP
                      have hD : va_D A ([(oX11 m0 0 0 (nI n) (-1) (nI (rn isBl T n 0)) 0 (-1) 0 fd rfm rt_ to_ rw_ wa (nI nt) rk rb cn br sm as_ go sh_ ir oa ob th ig sp_ ki tg of_ kp sf rs), (aI g fd 500 fb), (aI g to_ 25 tl), (aI g rk 7 (flF iniF rk_ 7)), (aI g rb 36 (upd (flF (fun _ => -1) rb_ i2) i2 (-1))), (aM g cn 7 (he_ro 7 r3)), (aM g br 7 (he_ro 7 r4))] ++ he_pl g L ln M) := hD
                      refine lv_iinc (v := nI (i2 + 1)) (lv' := [(2, .int (nI (i2 + 1))), (0, .ref m0), (1, .int (nI n))]) hx hb dX11_contract_126 hl (k := 2) rfl (nI_1 i2) (by decide) rfl (fun ls hl => ?_)
                      refine lv_goto (tgt := 113) hx hb dX11_contract_129 (by decide) ?_
                      have hP : va_P g.1 vwCl ([(oX11 m0 0 0 (nI n) (-1) (nI (rn isBl T n 0)) 0 (-1) 0 fd rfm rt_ to_ rw_ wa (nI nt) rk rb cn br sm as_ go sh_ ir oa ob th ig sp_ ki tg of_ kp sf rs), (aI g fd 500 fb), (aI g to_ 25 tl), (aI g rk 7 (flF iniF rk_ 7)), (aI g rb 36 (flF (fun _ => -1) rb_ (i2 + 1))), (aM g cn 7 (he_ro 7 r3)), (aM g br 7 (he_ro 7 r4))] ++ he_pl g L ln M) H := by rw [← flF_s (fun _ => -1) rb_ i2]; exact hP
                      have hD : va_D A ([(oX11 m0 0 0 (nI n) (-1) (nI (rn isBl T n 0)) 0 (-1) 0 fd rfm rt_ to_ rw_ wa (nI nt) rk rb cn br sm as_ go sh_ ir oa ob th ig sp_ ki tg of_ kp sf rs), (aI g fd 500 fb), (aI g to_ 25 tl), (aI g rk 7 (flF iniF rk_ 7)), (aI g rb 36 (flF (fun _ => -1) rb_ (i2 + 1))), (aM g cn 7 (he_ro 7 r3)), (aM g br 7 (he_ro 7 r4))] ++ he_pl g L ln M) := by rw [← flF_s (fun _ => -1) rb_ i2]; exact hD
                      exact ih113 (i2 + 1) (by omega) (by omega) _ _ _ hP hD hS (lv_sub hl [1, 2, 0] rfl)
                have hP : va_P g.1 vwCl ([(oX11 m0 0 0 (nI n) (-1) (nI (rn isBl T n 0)) 0 (-1) 0 fd rfm rt_ to_ rw_ wa (nI nt) rk rb cn br sm as_ go sh_ ir oa ob th ig sp_ ki tg of_ kp sf rs), (aI g fd 500 fb), (aI g to_ 25 tl), (aI g rk 7 (flF iniF rk_ 7)), (aI g rb 36 (flF (fun _ => -1) rb_ 0)), (aM g cn 7 (he_ro 7 r3)), (aM g br 7 (he_ro 7 r4))] ++ he_pl g L ln M) H := by rw [flF_0]; exact hP
                have hD : va_D A ([(oX11 m0 0 0 (nI n) (-1) (nI (rn isBl T n 0)) 0 (-1) 0 fd rfm rt_ to_ rw_ wa (nI nt) rk rb cn br sm as_ go sh_ ir oa ob th ig sp_ ki tg of_ kp sf rs), (aI g fd 500 fb), (aI g to_ 25 tl), (aI g rk 7 (flF iniF rk_ 7)), (aI g rb 36 (flF (fun _ => -1) rb_ 0)), (aM g cn 7 (he_ro 7 r3)), (aM g br 7 (he_ro 7 r4))] ++ he_pl g L ln M) := by rw [flF_0]; exact hD
                exact loop113 ((36 - 0) + 1) 0 (Nat.lt_succ_self _) (Nat.zero_le _) _ _ _ hP hD hS (lv_sub hl [1, 2, 0] rfl)
              · have k_56 : ¬ (7 ≤ i1) := fun h9 => c_15 ((he_cle (a := 7) (b := i1) (by decide) rfl (by omega) (by omega)).mpr h9)
                refine lv_aload_n hx hb dX11_contract_69 rfl (lv_at hl 0 rfl) ?_
                refine va_get (v := .ref rk) (T := TX11) (N := 35) hx hb hts inX11 hown hK hP 0 rfl rfl 15 (by decide) f34 (fun _ h9 => h9) rfl dX11_contract_70 ?_
                refine lv_iload_n hx hb dX11_contract_73 rfl (lv_at hl 2 rfl) ?_
                refine lv_iload_n hx hb dX11_contract_74 rfl (lv_at hl 2 rfl) ?_
                refine lv_iconst (v := 1) hx hb dX11_contract_75 (by decide) ?_
                refine lv_icmp_ne (tgt := 83) hx hb dX11_contract_76 (by decide) (fun c_57 => ?_) (fun c_57 => ?_)
                · have k_58 : ¬ (i1 = 1) := fun h9 => c_57 ((he_ceq (a := i1) (b := 1) rfl (by decide) (by omega) (by omega)).mpr h9)
                  refine lv_iload_n hx hb dX11_contract_83 rfl (lv_at hl 2 rfl) ?_
                  refine lv_iconst (v := 2) hx hb dX11_contract_84 (by decide) ?_
                  refine lv_icmp_ne (tgt := 93) hx hb dX11_contract_85 (by decide) (fun c_59 => ?_) (fun c_59 => ?_)
                  · have k_60 : ¬ (i1 = 2) := fun h9 => c_59 ((he_ceq (a := i1) (b := 2) rfl (by decide) (by omega) (by omega)).mpr h9)
                    refine lv_iload_n hx hb dX11_contract_93 rfl (lv_at hl 2 rfl) ?_
                    refine lv_iconst (v := 5) hx hb dX11_contract_94 (by decide) ?_
                    refine lv_icmp_ne (tgt := 103) hx hb dX11_contract_95 (by decide) (fun c_61 => ?_) (fun c_61 => ?_)
                    · have k_62 : ¬ (i1 = 5) := fun h9 => c_61 ((he_ceq (a := i1) (b := 5) rfl (by decide) (by omega) (by omega)).mpr h9)
                      refine lv_iconst (v := 0) hx hb dX11_contract_103 (by decide) ?_
                      refine he_iast hx hb hK hP hD hS 3 rfl (i1) rfl (by first | assumption | decide | omega) (by first | decide | assumption) dX11_contract_104 (fun H locs hP hD hS => ?_)
                      have hP : va_P g.1 vwCl ([(oX11 m0 0 0 (nI n) (-1) (nI (rn isBl T n 0)) 0 (-1) 0 fd rfm rt_ to_ rw_ wa (nI nt) rk rb cn br sm as_ go sh_ ir oa ob th ig sp_ ki tg of_ kp sf rs), (aI g fd 500 fb), (aI g to_ 25 tl), (aI g rk 7 (upd (flF iniF rk_ i1) i1 0)), (aI g rb 36 rb_), (aM g cn 7 (he_ro 7 r3)), (aM g br 7 (he_ro 7 r4))] ++ he_pl g L ln M) H := hP
                      have hD : va_D A ([(oX11 m0 0 0 (nI n) (-1) (nI (rn isBl T n 0)) 0 (-1) 0 fd rfm rt_ to_ rw_ wa (nI nt) rk rb cn br sm as_ go sh_ ir oa ob th ig sp_ ki tg of_ kp sf rs), (aI g fd 500 fb), (aI g to_ 25 tl), (aI g rk 7 (upd (flF iniF rk_ i1) i1 0)), (aI g rb 36 rb_), (aM g cn 7 (he_ro 7 r3)), (aM g br 7 (he_ro 7 r4))] ++ he_pl g L ln M) := hD
                      have hn9 : upd (flF iniF rk_ i1) i1 0 = flF iniF rk_ (i1 + 1) := (by rw [← flF_s]; congr 1; unfold iniF; (repeat' split) <;> first | rfl | omega)
                      rw [hn9] at hP hD
                      have hP : va_P g.1 vwCl ([(oX11 m0 0 0 (nI n) (-1) (nI (rn isBl T n 0)) 0 (-1) 0 fd rfm rt_ to_ rw_ wa (nI nt) rk rb cn br sm as_ go sh_ ir oa ob th ig sp_ ki tg of_ kp sf rs), (aI g fd 500 fb), (aI g to_ 25 tl), (aI g rk 7 (flF iniF rk_ (i1 + 1))), (aI g rb 36 rb_), (aM g cn 7 (he_ro 7 r3)), (aM g br 7 (he_ro 7 r4))] ++ he_pl g L ln M) H := hP
                      have hD : va_D A ([(oX11 m0 0 0 (nI n) (-1) (nI (rn isBl T n 0)) 0 (-1) 0 fd rfm rt_ to_ rw_ wa (nI nt) rk rb cn br sm as_ go sh_ ir oa ob th ig sp_ ki tg of_ kp sf rs), (aI g fd 500 fb), (aI g to_ 25 tl), (aI g rk 7 (flF iniF rk_ (i1 + 1))), (aI g rb 36 rb_), (aM g cn 7 (he_ro 7 r3)), (aM g br 7 (he_ro 7 r4))] ++ he_pl g L ln M) := hD
                      refine lv_iinc (v := nI (i1 + 1)) (lv' := [(2, .int (nI (i1 + 1))), (0, .ref m0), (1, .int (nI n))]) hx hb dX11_contract_105 hl (k := 2) rfl (nI_1 i1) (by decide) rfl (fun ls hl => ?_)
                      refine lv_goto (tgt := 63) hx hb dX11_contract_108 (by decide) ?_
                      exact ih63 (i1 + 1) (by omega) (by omega) _ _ _ hP hD hS (lv_sub hl [1, 2, 0] rfl)
                    · have k_63 : i1 = 5 := (he_ceq (a := i1) (b := 5) rfl (by decide) (by omega) (by omega)).mp c_61
                      refine lv_bipush (v := 36) hx hb dX11_contract_98 (by decide) ?_
                      refine lv_goto (tgt := 104) hx hb dX11_contract_100 (by decide) ?_
                      refine he_iast hx hb hK hP hD hS 3 rfl (i1) rfl (by first | assumption | decide | omega) (by first | decide | assumption) dX11_contract_104 (fun H locs hP hD hS => ?_)
                      have hP : va_P g.1 vwCl ([(oX11 m0 0 0 (nI n) (-1) (nI (rn isBl T n 0)) 0 (-1) 0 fd rfm rt_ to_ rw_ wa (nI nt) rk rb cn br sm as_ go sh_ ir oa ob th ig sp_ ki tg of_ kp sf rs), (aI g fd 500 fb), (aI g to_ 25 tl), (aI g rk 7 (upd (flF iniF rk_ i1) i1 36)), (aI g rb 36 rb_), (aM g cn 7 (he_ro 7 r3)), (aM g br 7 (he_ro 7 r4))] ++ he_pl g L ln M) H := hP
                      have hD : va_D A ([(oX11 m0 0 0 (nI n) (-1) (nI (rn isBl T n 0)) 0 (-1) 0 fd rfm rt_ to_ rw_ wa (nI nt) rk rb cn br sm as_ go sh_ ir oa ob th ig sp_ ki tg of_ kp sf rs), (aI g fd 500 fb), (aI g to_ 25 tl), (aI g rk 7 (upd (flF iniF rk_ i1) i1 36)), (aI g rb 36 rb_), (aM g cn 7 (he_ro 7 r3)), (aM g br 7 (he_ro 7 r4))] ++ he_pl g L ln M) := hD
                      have hn9 : upd (flF iniF rk_ i1) i1 36 = flF iniF rk_ (i1 + 1) := (by rw [← flF_s]; congr 1; unfold iniF; (repeat' split) <;> first | rfl | omega)
                      rw [hn9] at hP hD
                      have hP : va_P g.1 vwCl ([(oX11 m0 0 0 (nI n) (-1) (nI (rn isBl T n 0)) 0 (-1) 0 fd rfm rt_ to_ rw_ wa (nI nt) rk rb cn br sm as_ go sh_ ir oa ob th ig sp_ ki tg of_ kp sf rs), (aI g fd 500 fb), (aI g to_ 25 tl), (aI g rk 7 (flF iniF rk_ (i1 + 1))), (aI g rb 36 rb_), (aM g cn 7 (he_ro 7 r3)), (aM g br 7 (he_ro 7 r4))] ++ he_pl g L ln M) H := hP
                      have hD : va_D A ([(oX11 m0 0 0 (nI n) (-1) (nI (rn isBl T n 0)) 0 (-1) 0 fd rfm rt_ to_ rw_ wa (nI nt) rk rb cn br sm as_ go sh_ ir oa ob th ig sp_ ki tg of_ kp sf rs), (aI g fd 500 fb), (aI g to_ 25 tl), (aI g rk 7 (flF iniF rk_ (i1 + 1))), (aI g rb 36 rb_), (aM g cn 7 (he_ro 7 r3)), (aM g br 7 (he_ro 7 r4))] ++ he_pl g L ln M) := hD
                      refine lv_iinc (v := nI (i1 + 1)) (lv' := [(2, .int (nI (i1 + 1))), (0, .ref m0), (1, .int (nI n))]) hx hb dX11_contract_105 hl (k := 2) rfl (nI_1 i1) (by decide) rfl (fun ls hl => ?_)
                      refine lv_goto (tgt := 63) hx hb dX11_contract_108 (by decide) ?_
                      exact ih63 (i1 + 1) (by omega) (by omega) _ _ _ hP hD hS (lv_sub hl [1, 2, 0] rfl)
                  · have k_64 : i1 = 2 := (he_ceq (a := i1) (b := 2) rfl (by decide) (by omega) (by omega)).mp c_59
                    refine lv_bipush (v := 9) hx hb dX11_contract_88 (by decide) ?_
                    refine lv_goto (tgt := 104) hx hb dX11_contract_90 (by decide) ?_
                    refine he_iast hx hb hK hP hD hS 3 rfl (i1) rfl (by first | assumption | decide | omega) (by first | decide | assumption) dX11_contract_104 (fun H locs hP hD hS => ?_)
                    have hP : va_P g.1 vwCl ([(oX11 m0 0 0 (nI n) (-1) (nI (rn isBl T n 0)) 0 (-1) 0 fd rfm rt_ to_ rw_ wa (nI nt) rk rb cn br sm as_ go sh_ ir oa ob th ig sp_ ki tg of_ kp sf rs), (aI g fd 500 fb), (aI g to_ 25 tl), (aI g rk 7 (upd (flF iniF rk_ i1) i1 9)), (aI g rb 36 rb_), (aM g cn 7 (he_ro 7 r3)), (aM g br 7 (he_ro 7 r4))] ++ he_pl g L ln M) H := hP
                    have hD : va_D A ([(oX11 m0 0 0 (nI n) (-1) (nI (rn isBl T n 0)) 0 (-1) 0 fd rfm rt_ to_ rw_ wa (nI nt) rk rb cn br sm as_ go sh_ ir oa ob th ig sp_ ki tg of_ kp sf rs), (aI g fd 500 fb), (aI g to_ 25 tl), (aI g rk 7 (upd (flF iniF rk_ i1) i1 9)), (aI g rb 36 rb_), (aM g cn 7 (he_ro 7 r3)), (aM g br 7 (he_ro 7 r4))] ++ he_pl g L ln M) := hD
                    have hn9 : upd (flF iniF rk_ i1) i1 9 = flF iniF rk_ (i1 + 1) := (by rw [← flF_s]; congr 1; unfold iniF; (repeat' split) <;> first | rfl | omega)
                    rw [hn9] at hP hD
                    have hP : va_P g.1 vwCl ([(oX11 m0 0 0 (nI n) (-1) (nI (rn isBl T n 0)) 0 (-1) 0 fd rfm rt_ to_ rw_ wa (nI nt) rk rb cn br sm as_ go sh_ ir oa ob th ig sp_ ki tg of_ kp sf rs), (aI g fd 500 fb), (aI g to_ 25 tl), (aI g rk 7 (flF iniF rk_ (i1 + 1))), (aI g rb 36 rb_), (aM g cn 7 (he_ro 7 r3)), (aM g br 7 (he_ro 7 r4))] ++ he_pl g L ln M) H := hP
                    have hD : va_D A ([(oX11 m0 0 0 (nI n) (-1) (nI (rn isBl T n 0)) 0 (-1) 0 fd rfm rt_ to_ rw_ wa (nI nt) rk rb cn br sm as_ go sh_ ir oa ob th ig sp_ ki tg of_ kp sf rs), (aI g fd 500 fb), (aI g to_ 25 tl), (aI g rk 7 (flF iniF rk_ (i1 + 1))), (aI g rb 36 rb_), (aM g cn 7 (he_ro 7 r3)), (aM g br 7 (he_ro 7 r4))] ++ he_pl g L ln M) := hD
                    refine lv_iinc (v := nI (i1 + 1)) (lv' := [(2, .int (nI (i1 + 1))), (0, .ref m0), (1, .int (nI n))]) hx hb dX11_contract_105 hl (k := 2) rfl (nI_1 i1) (by decide) rfl (fun ls hl => ?_)
                    refine lv_goto (tgt := 63) hx hb dX11_contract_108 (by decide) ?_
                    exact ih63 (i1 + 1) (by omega) (by omega) _ _ _ hP hD hS (lv_sub hl [1, 2, 0] rfl)
                · have k_65 : i1 = 1 := (he_ceq (a := i1) (b := 1) rfl (by decide) (by omega) (by omega)).mp c_57
                  refine lv_iconst (v := (-1)) hx hb dX11_contract_79 (by decide) ?_
                  refine lv_goto (tgt := 104) hx hb dX11_contract_80 (by decide) ?_
                  refine he_iast hx hb hK hP hD hS 3 rfl (i1) rfl (by first | assumption | decide | omega) (by first | decide | assumption) dX11_contract_104 (fun H locs hP hD hS => ?_)
                  have hP : va_P g.1 vwCl ([(oX11 m0 0 0 (nI n) (-1) (nI (rn isBl T n 0)) 0 (-1) 0 fd rfm rt_ to_ rw_ wa (nI nt) rk rb cn br sm as_ go sh_ ir oa ob th ig sp_ ki tg of_ kp sf rs), (aI g fd 500 fb), (aI g to_ 25 tl), (aI g rk 7 (upd (flF iniF rk_ i1) i1 (-1))), (aI g rb 36 rb_), (aM g cn 7 (he_ro 7 r3)), (aM g br 7 (he_ro 7 r4))] ++ he_pl g L ln M) H := hP
                  have hD : va_D A ([(oX11 m0 0 0 (nI n) (-1) (nI (rn isBl T n 0)) 0 (-1) 0 fd rfm rt_ to_ rw_ wa (nI nt) rk rb cn br sm as_ go sh_ ir oa ob th ig sp_ ki tg of_ kp sf rs), (aI g fd 500 fb), (aI g to_ 25 tl), (aI g rk 7 (upd (flF iniF rk_ i1) i1 (-1))), (aI g rb 36 rb_), (aM g cn 7 (he_ro 7 r3)), (aM g br 7 (he_ro 7 r4))] ++ he_pl g L ln M) := hD
                  have hn9 : upd (flF iniF rk_ i1) i1 (-1) = flF iniF rk_ (i1 + 1) := (by rw [← flF_s]; congr 1; unfold iniF; (repeat' split) <;> first | rfl | omega)
                  rw [hn9] at hP hD
                  have hP : va_P g.1 vwCl ([(oX11 m0 0 0 (nI n) (-1) (nI (rn isBl T n 0)) 0 (-1) 0 fd rfm rt_ to_ rw_ wa (nI nt) rk rb cn br sm as_ go sh_ ir oa ob th ig sp_ ki tg of_ kp sf rs), (aI g fd 500 fb), (aI g to_ 25 tl), (aI g rk 7 (flF iniF rk_ (i1 + 1))), (aI g rb 36 rb_), (aM g cn 7 (he_ro 7 r3)), (aM g br 7 (he_ro 7 r4))] ++ he_pl g L ln M) H := hP
                  have hD : va_D A ([(oX11 m0 0 0 (nI n) (-1) (nI (rn isBl T n 0)) 0 (-1) 0 fd rfm rt_ to_ rw_ wa (nI nt) rk rb cn br sm as_ go sh_ ir oa ob th ig sp_ ki tg of_ kp sf rs), (aI g fd 500 fb), (aI g to_ 25 tl), (aI g rk 7 (flF iniF rk_ (i1 + 1))), (aI g rb 36 rb_), (aM g cn 7 (he_ro 7 r3)), (aM g br 7 (he_ro 7 r4))] ++ he_pl g L ln M) := hD
                  refine lv_iinc (v := nI (i1 + 1)) (lv' := [(2, .int (nI (i1 + 1))), (0, .ref m0), (1, .int (nI n))]) hx hb dX11_contract_105 hl (k := 2) rfl (nI_1 i1) (by decide) rfl (fun ls hl => ?_)
                  refine lv_goto (tgt := 63) hx hb dX11_contract_108 (by decide) ?_
                  exact ih63 (i1 + 1) (by omega) (by omega) _ _ _ hP hD hS (lv_sub hl [1, 2, 0] rfl)
          have hP : va_P g.1 vwCl ([(aI g to_ 25 tl), (aI g rk 7 (flF iniF rk_ 0)), (aI g rb 36 rb_), (aM g cn 7 (he_ro 7 r3)), (aM g br 7 (he_ro 7 r4)), (oX11 m0 0 0 (nI n) (-1) (nI (rn isBl T n 0)) 0 (-1) 0 fd rfm rt_ to_ rw_ wa (nI nt) rk rb cn br sm as_ go sh_ ir oa ob th ig sp_ ki tg of_ kp sf rs), (aI g fd 500 fb)] ++ he_pl g L ln M) H := by rw [flF_0]; exact hP
          have hD : va_D A ([(aI g to_ 25 tl), (aI g rk 7 (flF iniF rk_ 0)), (aI g rb 36 rb_), (aM g cn 7 (he_ro 7 r3)), (aM g br 7 (he_ro 7 r4)), (oX11 m0 0 0 (nI n) (-1) (nI (rn isBl T n 0)) 0 (-1) 0 fd rfm rt_ to_ rw_ wa (nI nt) rk rb cn br sm as_ go sh_ ir oa ob th ig sp_ ki tg of_ kp sf rs), (aI g fd 500 fb)] ++ he_pl g L ln M) := by rw [flF_0]; exact hD
          have hP := he_Psub (X := [(aI g to_ 25 tl), (aI g rk 7 (flF iniF rk_ 0)), (aI g rb 36 rb_), (aM g cn 7 (he_ro 7 r3)), (aM g br 7 (he_ro 7 r4)), (oX11 m0 0 0 (nI n) (-1) (nI (rn isBl T n 0)) 0 (-1) 0 fd rfm rt_ to_ rw_ wa (nI nt) rk rb cn br sm as_ go sh_ ir oa ob th ig sp_ ki tg of_ kp sf rs), (aI g fd 500 fb)]) (X2 := [(oX11 m0 0 0 (nI n) (-1) (nI (rn isBl T n 0)) 0 (-1) 0 fd rfm rt_ to_ rw_ wa (nI nt) rk rb cn br sm as_ go sh_ ir oa ob th ig sp_ ki tg of_ kp sf rs), (aI g fd 500 fb), (aI g to_ 25 tl), (aI g rk 7 (flF iniF rk_ 0)), (aI g rb 36 rb_), (aM g cn 7 (he_ro 7 r3)), (aM g br 7 (he_ro 7 r4))]) (P := (he_pl g L ln M)) hP [5, 6, 0, 1, 2, 3, 4] rfl
          have hD := he_Dsub (X := [(aI g to_ 25 tl), (aI g rk 7 (flF iniF rk_ 0)), (aI g rb 36 rb_), (aM g cn 7 (he_ro 7 r3)), (aM g br 7 (he_ro 7 r4)), (oX11 m0 0 0 (nI n) (-1) (nI (rn isBl T n 0)) 0 (-1) 0 fd rfm rt_ to_ rw_ wa (nI nt) rk rb cn br sm as_ go sh_ ir oa ob th ig sp_ ki tg of_ kp sf rs), (aI g fd 500 fb)]) (X2 := [(oX11 m0 0 0 (nI n) (-1) (nI (rn isBl T n 0)) 0 (-1) 0 fd rfm rt_ to_ rw_ wa (nI nt) rk rb cn br sm as_ go sh_ ir oa ob th ig sp_ ki tg of_ kp sf rs), (aI g fd 500 fb), (aI g to_ 25 tl), (aI g rk 7 (flF iniF rk_ 0)), (aI g rb 36 rb_), (aM g cn 7 (he_ro 7 r3)), (aM g br 7 (he_ro 7 r4))]) (P := (he_pl g L ln M)) hD [5, 6, 0, 1, 2, 3, 4] rfl rfl rfl
          exact loop63 ((7 - 0) + 1) 0 (Nat.lt_succ_self _) (Nat.zero_le _) _ _ _ hP hD hS (lv_sub hl [1, 2, 0] rfl)
        · have k_66 : nt = 6 := (he_ceq (a := nt) (b := 6) rfl (by decide) (by omega) (by omega)).mp c_13
          refine lv_iconst (v := (-1)) hx hb dX11_contract_59 (by decide) ?_
          have hP := he_Psub (X := [(aI g to_ 25 tl), (aI g rk 7 rk_), (aI g rb 36 rb_), (aM g cn 7 (he_ro 7 r3)), (aM g br 7 (he_ro 7 r4)), (oX11 m0 0 0 (nI n) (-1) (nI (rn isBl T n 0)) 0 (-1) 0 fd rfm rt_ to_ rw_ wa (nI nt) rk rb cn br sm as_ go sh_ ir oa ob th ig sp_ ki tg of_ kp sf rs), (aI g fd 500 fb)]) (X2 := [(oX11 m0 0 0 (nI n) (-1) (nI (rn isBl T n 0)) 0 (-1) 0 fd rfm rt_ to_ rw_ wa (nI nt) rk rb cn br sm as_ go sh_ ir oa ob th ig sp_ ki tg of_ kp sf rs), (aI g fd 500 fb), (aI g to_ 25 tl), (aI g rk 7 rk_), (aI g rb 36 rb_), (aM g cn 7 (he_ro 7 r3)), (aM g br 7 (he_ro 7 r4))]) (P := (he_pl g L ln M)) hP [5, 6, 0, 1, 2, 3, 4] rfl
          have hD := he_Dsub (X := [(aI g to_ 25 tl), (aI g rk 7 rk_), (aI g rb 36 rb_), (aM g cn 7 (he_ro 7 r3)), (aM g br 7 (he_ro 7 r4)), (oX11 m0 0 0 (nI n) (-1) (nI (rn isBl T n 0)) 0 (-1) 0 fd rfm rt_ to_ rw_ wa (nI nt) rk rb cn br sm as_ go sh_ ir oa ob th ig sp_ ki tg of_ kp sf rs), (aI g fd 500 fb)]) (X2 := [(oX11 m0 0 0 (nI n) (-1) (nI (rn isBl T n 0)) 0 (-1) 0 fd rfm rt_ to_ rw_ wa (nI nt) rk rb cn br sm as_ go sh_ ir oa ob th ig sp_ ki tg of_ kp sf rs), (aI g fd 500 fb), (aI g to_ 25 tl), (aI g rk 7 rk_), (aI g rb 36 rb_), (aM g cn 7 (he_ro 7 r3)), (aM g br 7 (he_ro 7 r4))]) (P := (he_pl g L ln M)) hD [5, 6, 0, 1, 2, 3, 4] rfl rfl rfl
          exact he_ri hQ hx hb hr hlk hP hD hS dX11_contract_60 (Nat.le_of_ble_eq_true rfl) (Nat.le_of_ble_eq_true rfl) ((nt, rn isBl T n 0, 0, (-1), 0, (-1), rk_, rb_, M)) (rfl) (by (try dsimp only); exact ⟨Or.inl ⟨rfl, rfl, Or.inl ⟨by (try dsimp only); omega, rfl⟩⟩, fun h9 => absurd h9 (by (try dsimp only); omega), fun _ => rfl⟩)
      · exact absurd (by decide) c_9
    · exact absurd ((he_cle (a := n) (b := 200) rfl (by decide) (by omega) (by decide)).mpr hn2) c_5
