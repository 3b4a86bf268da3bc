/-- a contract's numbers: how near, corks, till -/
def cOk (f : Nat → Int32) : Prop := (∃ q, q ≤ 9 ∧ f 2 = nI q) ∧ (∃ q, q ≤ 99 ∧ f 3 = nI q) ∧ ∃ q, 1 ≤ q ∧ q ≤ 36 ∧ f 5 = nI q
/-- a contract's breaches: none, or a wall -/
def bOk (f : Nat → Int32) : Prop := ∀ m, m < 36 → f m = -1 ∨ ∃ k, k < 6 ∧ f m = nI k
theorem cOk_upd {f : Nat → Int32} {i : Nat} {v : Int32} (h : cOk f) (h2 : i = 2 → ∃ q, q ≤ 9 ∧ v = nI q) (h3 : i = 3 → ∃ q, q ≤ 99 ∧ v = nI q) (h5 : i = 5 → ∃ q, 1 ≤ q ∧ q ≤ 36 ∧ v = nI q) : cOk (upd f i v) := by
  obtain ⟨a, b, d⟩ := h
  refine ⟨?_, ?_, ?_⟩
  · by_cases e : i = 2
    · subst e; rw [upd_s]; exact h2 rfl
    · rw [upd_n (fun h9 => e h9.symm)]; exact a
  · by_cases e : i = 3
    · subst e; rw [upd_s]; exact h3 rfl
    · rw [upd_n (fun h9 => e h9.symm)]; exact b
  · by_cases e : i = 5
    · subst e; rw [upd_s]; exact h5 rfl
    · rw [upd_n (fun h9 => e h9.symm)]; exact d
theorem bOk_upd {f : Nat → Int32} {i : Nat} {v : Int32} (h : bOk f) (hv : v = -1 ∨ ∃ k, k < 6 ∧ v = nI k) : bOk (upd f i v) := by
  intro m hm
  unfold upd
  split
  · exact hv
  · exact h m hm
theorem wi_nat {x a b : Int32} {A B : Nat} (ha : a = nI A) (hb : b = nI B) (hA : A < 2147483648) (hB : B < 2147483648) (h : ¬ he_within x a b = 0) : ∃ n : Nat, x = nI n ∧ A ≤ n ∧ n ≤ B := by
  have h1 := (within_le h).1
  have h2 := (within_le h).2
  have h0 : ¬ x < 0 := fun h9 => absurd (Int32.lt_of_lt_of_le h9 (by rw [ha] at h1; exact Int32.le_trans (nI_pos' hA) h1)) (Int32.lt_irrefl)
  obtain ⟨j, hj, e⟩ := nI_of h0
  subst e
  exact ⟨j, rfl, (nI_leI hA hj).mp (by rw [← ha]; exact h1), (nI_leI hj hB).mp (by rw [← hb]; exact h2)⟩
theorem num_to {r a b : Int32} {lo hi : Nat} {A X Y Z : Prop} (ha : a = nI lo) (hb : b = nI hi) (hB : hi < 2147483648) (hlo : lo < 2147483648) (h : (A ∧ r = 0) ∨ (X ∧ Y ∧ ¬ he_within r a b = 0 ∧ Z)) (hx : ¬ A) : ∃ q, lo ≤ q ∧ q ≤ hi ∧ r = nI q := by
  obtain ⟨-, -, h, -⟩ := h.resolve_left (fun h9 => hx h9.1)
  obtain ⟨q, e, h1, h2⟩ := wi_nat (A := lo) (B := hi) ha hb hlo hB h
  exact ⟨q, h1, h2, e⟩
theorem num_w {r : Int32} {w : Nat} {A X Y Z : Prop} (hw : w ≤ 6) (h : (A ∧ r = 0) ∨ (X ∧ Y ∧ ¬ he_within r 0 (nI w - 1) = 0 ∧ Z)) (hx : ¬ A) : ∃ k, k < 6 ∧ r = nI k := by
  obtain ⟨-, -, h, -⟩ := h.resolve_left (fun h9 => hx h9.1)
  rcases Nat.eq_zero_or_pos w with e | e
  · subst e
    exact absurd (he_within_m1 r) h
  · rw [nI_m1 e] at h
    obtain ⟨q1, q2⟩ := he_within_nat rfl (by omega) h
    exact ⟨_, by omega, q1⟩
def iniF (k : Nat) : Int32 := if k = 1 then -1 else if k = 2 then 9 else if k = 5 then 36 else 0
theorem ini_c (f : Nat → Int32) : cOk (flF iniF f 7) := ⟨⟨9, by decide, rfl⟩, ⟨0, by decide, rfl⟩, ⟨36, by decide, by decide, rfl⟩⟩
theorem ini_b (f : Nat → Int32) : bOk (flF (fun _ => -1) f 36) := by
  intro m hm
  left
  unfold flF
  rw [if_pos hm]
/-- a row that is being filled, all others as they were -/
def rFill (a : Nat) (f : Nat → Int32) (M M2 : Nat → Nat → Int32) (i : Nat) : Prop := (∀ b, b < i → M2 a b = f b) ∧ ∀ q, q ≠ a → M2 q = M q
theorem rFill_0 (a : Nat) (f : Nat → Int32) (M : Nat → Nat → Int32) : rFill a f M M 0 := ⟨fun b h => absurd h (Nat.not_lt_zero b), fun _ _ => rfl⟩
theorem rFill_s {a : Nat} {f : Nat → Int32} {M M2 : Nat → Nat → Int32} {i : Nat} (h : rFill a f M M2 i) : rFill a f M (va_up M2 a (upd (M2 a) i (f i))) (i + 1) := by
  constructor
  · intro b hb
    unfold va_up
    rw [if_pos rfl]
    unfold upd
    by_cases e : b = i
    · rw [if_pos e, e]
    · rw [if_neg e]; exact h.1 b (by omega)
  · intro q hq
    unfold va_up
    rw [if_neg hq]
    exact h.2 q hq
theorem cOk_eq {f g : Nat → Int32} (h : cOk f) (e : ∀ b, b < 7 → g b = f b) : cOk g := by
  obtain ⟨a, b, d⟩ := h
  exact ⟨by rw [e 2 (by decide)]; exact a, by rw [e 3 (by decide)]; exact b, by rw [e 5 (by decide)]; exact d⟩
theorem bOk_eq {f g : Nat → Int32} (h : bOk f) (e : ∀ b, b < 36 → g b = f b) : bOk g := fun m hm => by rw [e m hm]; exact h m hm
set_option maxHeartbeats 4000000 in
set_option maxRecDepth 100000 in
theorem h_X11_rules (l : Launch) (g : he_G) (m0 : Nat) (fd : Nat) (rfm : Nat) (rt_ : Nat) (to_ : Nat) (rw_ : Nat) (wa : Nat) (rk : Nat) (rb : Nat) (cn : Nat) (br : Nat) (sm : Nat) (as_ : Nat) (go : Nat) (sh_ : Nat) (ki : Nat) (tg : Nat) (of_ : Nat) (kp : Nat) (rs : Nat) (ta : Int32) (pl : Int32) (ct : Int32) (ir : Int32) (oa : Int32) (ob : Int32) (th : Int32) (ig : Int32) (sp_ : Int32) (sf : Int32) (tw : Int32) (n : Nat) (k : Nat) (fa : Int32) (fw : Int32) (cs : Int32) (fb : Nat → Int32) (tl : Nat → Int32) (rk_ : Nat → Int32) (rb_ : Nat → Int32) (w : Nat) (hn : n ≤ 500) (hk : k ≤ n) (hfa : fa = 0) (htl : tl 0 = nI w) (hw6 : w ≤ 6) (hc : cOk rk_) (hbo : bOk rb_) : he_V l yX11_rules wsX11_rules 4 89 0 0 g [.ref m0] [(oX11 m0 tw ta (nI n) pl (nI k) fa fw cs fd rfm rt_ to_ rw_ wa ct rk rb cn br sm as_ go sh_ ir oa ob th ig sp_ ki tg of_ kp sf rs), (aI g fd 500 fb), (aI g to_ 25 tl), (aI g rk 7 rk_), (aI g rb 36 rb_)] (fun (u : Nat × Int32 × Int32 × Int32 × (Nat → Int32) × (Nat → Int32)) => k ≤ u.1 ∧ u.1 ≤ n ∧ (¬ u.2.1 = 0 ∨ (u.2.1 = 0 ∧ k < u.1)) ∧ (u.2.1 = 0 → (cOk u.2.2.2.2.1 ∧ bOk u.2.2.2.2.2))) (fun (u : Nat × Int32 × Int32 × Int32 × (Nat → Int32) × (Nat → Int32)) => [(oX11 m0 tw ta (nI n) pl (nI u.1) u.2.1 u.2.2.1 u.2.2.2.1 fd rfm rt_ to_ rw_ wa ct rk rb cn br sm as_ go sh_ ir oa ob th ig sp_ ki tg of_ kp sf rs), (aI g fd 500 fb), (aI g to_ 25 tl), (aI g rk 7 u.2.2.2.2.1), (aI g rb 36 u.2.2.2.2.2)]) := by
  refine he_begin (l := l) (g := g) (y := yX11_rules) (wl := wsX11_rules) (fr := 4) (lo := 89) (mc := 0) (ms := 0) (av := [.ref m0]) (ws := [(oX11 m0 tw ta (nI n) pl (nI k) fa fw cs fd rfm rt_ to_ rw_ wa ct rk rb cn br sm as_ go sh_ ir oa ob th ig sp_ ki tg of_ kp sf rs), (aI g fd 500 fb), (aI g to_ 25 tl), (aI g rk 7 rk_), (aI g rb 36 rb_)]) (cc := cX11_rules) (maxL := 4) (ret := none) (fun A => va_Qv (fun (u : Nat × Int32 × Int32 × Int32 × (Nat → Int32) × (Nat → Int32)) => k ≤ u.1 ∧ u.1 ≤ n ∧ (¬ u.2.1 = 0 ∨ (u.2.1 = 0 ∧ k < u.1)) ∧ (u.2.1 = 0 → (cOk u.2.2.2.2.1 ∧ bOk u.2.2.2.2.2))) (fun u t => he_post g A ((fun (u : Nat × Int32 × Int32 × Int32 × (Nat → Int32) × (Nat → Int32)) => [(oX11 m0 tw ta (nI n) pl (nI u.1) u.2.1 u.2.2.1 u.2.2.2.1 fd rfm rt_ to_ rw_ wa ct rk rb cn br sm as_ go sh_ ir oa ob th ig sp_ ki tg of_ kp sf rs), (aI g fd 500 fb), (aI g to_ 25 tl), (aI g rk 7 u.2.2.2.2.1), (aI g rb 36 u.2.2.2.2.2)]) u) t) A) (by decide) rfl (Nat.le_of_ble_eq_true rfl) ?_
  intro p e s m args below meth c A ls H locs Q hQ hB
  obtain ⟨hx, hb, hr, hml, hown, hts, hlk, hin, hP, hK, hD, hS, hA, hE, hl⟩ := hB
  have hl : lv_has ls 4 [(0, .ref m0)] := hl
  subst hfa
  have f94 := hts (.fieldLink RX11 94 "HiredEnemyModel" "at" "I") (iwoX11_rules (k := 0) rfl)
  have inX11 : ∀ w ∈ wsX110, w ∈ wsX11_rules := innX11_rules_X11
  have f101 := hts (.fieldLink RX11 101 "HiredEnemyModel" "fault" "I") (iwoX11_rules (k := 2) rfl)
  have f131 := hts (.fieldLink RX11 131 "HiredEnemyModel" "clauses" "I") (iwoX11_rules (k := 1) rfl)
  have f23 := hts (.fieldLink RX11 23 "HiredEnemyModel" "told" "[I") (iwoX11_rules (k := 3) rfl)
  have f37 := hts (.fieldLink RX11 37 "HiredEnemyModel" "readBreach" "[I") (iwoX11_rules (k := 4) rfl)
  have f34 := hts (.fieldLink RX11 34 "HiredEnemyModel" "readContract" "[I") (iwoX11_rules (k := 5) rfl)
  refine lv_aload_n hx hb dX11_rules_0 rfl (lv_at hl 0 rfl) ?_
  refine lv_bipush (v := 16) hx hb dX11_rules_1 (by decide) ?_
  refine lv_iconst (v := 1) hx hb dX11_rules_3 (by decide) ?_
  refine lv_bipush (v := 25) hx hb dX11_rules_4 (by decide) ?_
  refine lv_iconst (v := 0) hx hb dX11_rules_6 (by decide) ?_
  refine lv_iconst (v := 0) hx hb dX11_rules_7 (by decide) ?_
  refine lv_iconst (v := 0) hx hb dX11_rules_8 (by decide) ?_
  refine he_ci (wc := [(oX11 m0 tw ta (nI n) pl (nI k) 0 fw cs fd rfm rt_ to_ rw_ wa ct rk rb cn br sm as_ go sh_ ir oa ob th ig sp_ ki tg of_ kp sf rs), (aI g fd 500 fb)]) (wr := [(aI g to_ 25 tl), (aI g rk 7 rk_), (aI g rb 36 rb_)]) (va_runV (As := [.int 16, .int 1, .int 25, .int 0, .int 0, .int 0]) (rest := []) ⟨hx, hb, hml, hown, hts⟩ (h_X11_isWord_16_1_25_0_0_0 l g m0 fd rfm rt_ to_ rw_ wa rk rb cn br sm as_ go sh_ ki tg of_ kp rs ta pl cs ct ir oa ob th ig sp_ sf tw n k fw fb (by first | assumption | decide | omega) (by first | assumption | decide | omega) H.size) (cwV 6 hts gX11_rules_X11_isWord rfl rfl rfl (by decide +kernel) ⟨Nat.le_of_ble_eq_true rfl, Nat.le_of_ble_eq_true rfl⟩) (he_preV (wc := [(oX11 m0 tw ta (nI n) pl (nI k) 0 fw cs fd rfm rt_ to_ rw_ wa ct rk rb cn br sm as_ go sh_ ir oa ob th ig sp_ ki tg of_ kp sf rs), (aI g fd 500 fb)]) hK hP hD hS hA hE [0, 1] rfl rfl 0 rfl rfl) rfl rfl hl.1 rfl (lv_room (Nat.le_of_ble_eq_true rfl)) dX11_rules_9 ⟨(Nat.le_of_ble_eq_true rfl), (Nat.le_of_ble_eq_true rfl)⟩) hP hD hS hA [0, 1] [2, 3, 4] rfl rfl rfl (by decide) (fun r_1 u_2 H locs h_3 hP hD hS => ?_)
  obtain ⟨k2_4, rfl⟩ : ∃ z, z = u_2 := ⟨_, rfl⟩
  try dsimp only at h_3
  obtain ⟨hf_5, hf_6, hf_7⟩ := h_3
  have hP : va_P g.1 vwCl [(aI g to_ 25 tl), (aI g rk 7 rk_), (aI g rb 36 rb_), (oX11 m0 tw ta (nI n) pl (nI k2_4) 0 fw cs fd rfm rt_ to_ rw_ wa ct rk rb cn br sm as_ go sh_ ir oa ob th ig sp_ ki tg of_ kp sf rs), (aI g fd 500 fb)] H := hP
  have hD : va_D A [(aI g to_ 25 tl), (aI g rk 7 rk_), (aI g rb 36 rb_), (oX11 m0 tw ta (nI n) pl (nI k2_4) 0 fw cs fd rfm rt_ to_ rw_ wa ct rk rb cn br sm as_ go sh_ ir oa ob th ig sp_ ki tg of_ kp sf rs), (aI g fd 500 fb)] := hD
  refine lv_if_eq (tgt := 19) hx hb dX11_rules_12 (by decide) (fun c_8 => ?_) (fun c_8 => ?_)
  · refine lv_aload_n hx hb dX11_rules_19 rfl (lv_at hl 0 rfl) ?_
    refine lv_bipush (v := 23) hx hb dX11_rules_20 (by decide) ?_
    refine lv_bipush (v := 9) hx hb dX11_rules_22 (by decide) ?_
    refine lv_bipush (v := 14) hx hb dX11_rules_24 (by decide) ?_
    refine lv_bipush (v := 20) hx hb dX11_rules_26 (by decide) ?_
    refine lv_iconst (v := 5) hx hb dX11_rules_28 (by decide) ?_
    refine lv_bipush (v := 18) hx hb dX11_rules_29 (by decide) ?_
    refine he_ci (wc := [(oX11 m0 tw ta (nI n) pl (nI k2_4) 0 fw cs fd rfm rt_ to_ rw_ wa ct rk rb cn br sm as_ go sh_ ir oa ob th ig sp_ ki tg of_ kp sf rs), (aI g fd 500 fb)]) (wr := [(aI g to_ 25 tl), (aI g rk 7 rk_), (aI g rb 36 rb_)]) (va_runV (As := [.int 23, .int 9, .int 14, .int 20, .int 5, .int 18]) (rest := []) ⟨hx, hb, hml, hown, hts⟩ (h_X11_isWord_23_9_14_20_5_18 l g m0 fd rfm rt_ to_ rw_ wa rk rb cn br sm as_ go sh_ ki tg of_ kp rs ta pl cs ct ir oa ob th ig sp_ sf tw n k2_4 fw fb (by first | assumption | decide | omega) (by first | assumption | decide | omega) H.size) (cwV 6 hts gX11_rules_X11_isWord rfl rfl rfl (by decide +kernel) ⟨Nat.le_of_ble_eq_true rfl, Nat.le_of_ble_eq_true rfl⟩) (he_preV (wc := [(oX11 m0 tw ta (nI n) pl (nI k2_4) 0 fw cs fd rfm rt_ to_ rw_ wa ct rk rb cn br sm as_ go sh_ ir oa ob th ig sp_ ki tg of_ kp sf rs), (aI g fd 500 fb)]) hK hP hD hS hA hE [3, 4] rfl rfl 3 rfl rfl) rfl rfl hl.1 rfl (lv_room (Nat.le_of_ble_eq_true rfl)) dX11_rules_31 ⟨(Nat.le_of_ble_eq_true rfl), (Nat.le_of_ble_eq_true rfl)⟩) hP hD hS hA [3, 4] [0, 1, 2] rfl rfl rfl (by decide) (fun r_9 u_10 H locs h_11 hP hD hS => ?_)
    obtain ⟨k2_12, rfl⟩ : ∃ z, z = u_10 := ⟨_, rfl⟩
    try dsimp only at h_11
    obtain ⟨hf_13, hf_14, hf_15⟩ := h_11
    have hP : va_P g.1 vwCl [(aI g to_ 25 tl), (aI g rk 7 rk_), (aI g rb 36 rb_), (oX11 m0 tw ta (nI n) pl (nI k2_12) 0 fw cs fd rfm rt_ to_ rw_ wa ct rk rb cn br sm as_ go sh_ ir oa ob th ig sp_ ki tg of_ kp sf rs), (aI g fd 500 fb)] H := hP
    have hD : va_D A [(aI g to_ 25 tl), (aI g rk 7 rk_), (aI g rb 36 rb_), (oX11 m0 tw ta (nI n) pl (nI k2_12) 0 fw cs fd rfm rt_ to_ rw_ wa ct rk rb cn br sm as_ go sh_ ir oa ob th ig sp_ ki tg of_ kp sf rs), (aI g fd 500 fb)] := hD
    refine lv_if_eq (tgt := 41) hx hb dX11_rules_34 (by decide) (fun c_16 => ?_) (fun c_16 => ?_)
    · refine lv_aload_n hx hb dX11_rules_41 rfl (lv_at hl 0 rfl) ?_
      refine lv_bipush (v := 14) hx hb dX11_rules_42 (by decide) ?_
      refine lv_iconst (v := 5) hx hb dX11_rules_44 (by decide) ?_
      refine lv_iconst (v := 1) hx hb dX11_rules_45 (by decide) ?_
      refine lv_bipush (v := 18) hx hb dX11_rules_46 (by decide) ?_
      refine lv_iconst (v := 0) hx hb dX11_rules_48 (by decide) ?_
      refine lv_iconst (v := 0) hx hb dX11_rules_49 (by decide) ?_
      refine he_ci (wc := [(oX11 m0 tw ta (nI n) pl (nI k2_12) 0 fw cs fd rfm rt_ to_ rw_ wa ct rk rb cn br sm as_ go sh_ ir oa ob th ig sp_ ki tg of_ kp sf rs), (aI g fd 500 fb)]) (wr := [(aI g to_ 25 tl), (aI g rk 7 rk_), (aI g rb 36 rb_)]) (va_runV (As := [.int 14, .int 5, .int 1, .int 18, .int 0, .int 0]) (rest := []) ⟨hx, hb, hml, hown, hts⟩ (h_X11_isWord_14_5_1_18_0_0 l g m0 fd rfm rt_ to_ rw_ wa rk rb cn br sm as_ go sh_ ki tg of_ kp rs ta pl cs ct ir oa ob th ig sp_ sf tw n k2_12 fw fb (by first | assumption | decide | omega) (by first | assumption | decide | omega) H.size) (cwV 6 hts gX11_rules_X11_isWord rfl rfl rfl (by decide +kernel) ⟨Nat.le_of_ble_eq_true rfl, Nat.le_of_ble_eq_true rfl⟩) (he_preV (wc := [(oX11 m0 tw ta (nI n) pl (nI k2_12) 0 fw cs fd rfm rt_ to_ rw_ wa ct rk rb cn br sm as_ go sh_ ir oa ob th ig sp_ ki tg of_ kp sf rs), (aI g fd 500 fb)]) hK hP hD hS hA hE [3, 4] rfl rfl 3 rfl rfl) rfl rfl hl.1 rfl (lv_room (Nat.le_of_ble_eq_true rfl)) dX11_rules_50 ⟨(Nat.le_of_ble_eq_true rfl), (Nat.le_of_ble_eq_true rfl)⟩) hP hD hS hA [3, 4] [0, 1, 2] rfl rfl rfl (by decide) (fun r_17 u_18 H locs h_19 hP hD hS => ?_)
      obtain ⟨k2_20, rfl⟩ : ∃ z, z = u_18 := ⟨_, rfl⟩
      try dsimp only at h_19
      obtain ⟨hf_21, hf_22, hf_23⟩ := h_19
      have hP : va_P g.1 vwCl [(aI g to_ 25 tl), (aI g rk 7 rk_), (aI g rb 36 rb_), (oX11 m0 tw ta (nI n) pl (nI k2_20) 0 fw cs fd rfm rt_ to_ rw_ wa ct rk rb cn br sm as_ go sh_ ir oa ob th ig sp_ ki tg of_ kp sf rs), (aI g fd 500 fb)] H := hP
      have hD : va_D A [(aI g to_ 25 tl), (aI g rk 7 rk_), (aI g rb 36 rb_), (oX11 m0 tw ta (nI n) pl (nI k2_20) 0 fw cs fd rfm rt_ to_ rw_ wa ct rk rb cn br sm as_ go sh_ ir oa ob th ig sp_ ki tg of_ kp sf rs), (aI g fd 500 fb)] := hD
      refine lv_if_eq (tgt := 60) hx hb dX11_rules_53 (by decide) (fun c_24 => ?_) (fun c_24 => ?_)
      · refine lv_aload_n hx hb dX11_rules_60 rfl (lv_at hl 0 rfl) ?_
        refine lv_iconst (v := 3) hx hb dX11_rules_61 (by decide) ?_
        refine lv_bipush (v := 15) hx hb dX11_rules_62 (by decide) ?_
        refine lv_bipush (v := 18) hx hb dX11_rules_64 (by decide) ?_
        refine lv_bipush (v := 11) hx hb dX11_rules_66 (by decide) ?_
        refine lv_bipush (v := 19) hx hb dX11_rules_68 (by decide) ?_
        refine lv_iconst (v := 0) hx hb dX11_rules_70 (by decide) ?_
        refine he_ci (wc := [(oX11 m0 tw ta (nI n) pl (nI k2_20) 0 fw cs fd rfm rt_ to_ rw_ wa ct rk rb cn br sm as_ go sh_ ir oa ob th ig sp_ ki tg of_ kp sf rs), (aI g fd 500 fb)]) (wr := [(aI g to_ 25 tl), (aI g rk 7 rk_), (aI g rb 36 rb_)]) (va_runV (As := [.int 3, .int 15, .int 18, .int 11, .int 19, .int 0]) (rest := []) ⟨hx, hb, hml, hown, hts⟩ (h_X11_isWord_3_15_18_11_19_0 l g m0 fd rfm rt_ to_ rw_ wa rk rb cn br sm as_ go sh_ ki tg of_ kp rs ta pl cs ct ir oa ob th ig sp_ sf tw n k2_20 fw fb (by first | assumption | decide | omega) (by first | assumption | decide | omega) H.size) (cwV 6 hts gX11_rules_X11_isWord rfl rfl rfl (by decide +kernel) ⟨Nat.le_of_ble_eq_true rfl, Nat.le_of_ble_eq_true rfl⟩) (he_preV (wc := [(oX11 m0 tw ta (nI n) pl (nI k2_20) 0 fw cs fd rfm rt_ to_ rw_ wa ct rk rb cn br sm as_ go sh_ ir oa ob th ig sp_ ki tg of_ kp sf rs), (aI g fd 500 fb)]) hK hP hD hS hA hE [3, 4] rfl rfl 3 rfl rfl) rfl rfl hl.1 rfl (lv_room (Nat.le_of_ble_eq_true rfl)) dX11_rules_71 ⟨(Nat.le_of_ble_eq_true rfl), (Nat.le_of_ble_eq_true rfl)⟩) hP hD hS hA [3, 4] [0, 1, 2] rfl rfl rfl (by decide) (fun r_25 u_26 H locs h_27 hP hD hS => ?_)
        obtain ⟨k2_28, rfl⟩ : ∃ z, z = u_26 := ⟨_, rfl⟩
        try dsimp only at h_27
        obtain ⟨hf_29, hf_30, hf_31⟩ := h_27
        have hP : va_P g.1 vwCl [(aI g to_ 25 tl), (aI g rk 7 rk_), (aI g rb 36 rb_), (oX11 m0 tw ta (nI n) pl (nI k2_28) 0 fw cs fd rfm rt_ to_ rw_ wa ct rk rb cn br sm as_ go sh_ ir oa ob th ig sp_ ki tg of_ kp sf rs), (aI g fd 500 fb)] H := hP
        have hD : va_D A [(aI g to_ 25 tl), (aI g rk 7 rk_), (aI g rb 36 rb_), (oX11 m0 tw ta (nI n) pl (nI k2_28) 0 fw cs fd rfm rt_ to_ rw_ wa ct rk rb cn br sm as_ go sh_ ir oa ob th ig sp_ ki tg of_ kp sf rs), (aI g fd 500 fb)] := hD
        refine lv_if_eq (tgt := 81) hx hb dX11_rules_74 (by decide) (fun c_32 => ?_) (fun c_32 => ?_)
        · refine lv_aload_n hx hb dX11_rules_81 rfl (lv_at hl 0 rfl) ?_
          refine lv_iconst (v := 2) hx hb dX11_rules_82 (by decide) ?_
          refine lv_bipush (v := 15) hx hb dX11_rules_83 (by decide) ?_
          refine lv_bipush (v := 14) hx hb dX11_rules_85 (by decide) ?_
          refine lv_bipush (v := 21) hx hb dX11_rules_87 (by decide) ?_
          refine lv_bipush (v := 19) hx hb dX11_rules_89 (by decide) ?_
          refine lv_iconst (v := 0) hx hb dX11_rules_91 (by decide) ?_
          refine he_ci (wc := [(oX11 m0 tw ta (nI n) pl (nI k2_28) 0 fw cs fd rfm rt_ to_ rw_ wa ct rk rb cn br sm as_ go sh_ ir oa ob th ig sp_ ki tg of_ kp sf rs), (aI g fd 500 fb)]) (wr := [(aI g to_ 25 tl), (aI g rk 7 rk_), (aI g rb 36 rb_)]) (va_runV (As := [.int 2, .int 15, .int 14, .int 21, .int 19, .int 0]) (rest := []) ⟨hx, hb, hml, hown, hts⟩ (h_X11_isWord_2_15_14_21_19_0 l g m0 fd rfm rt_ to_ rw_ wa rk rb cn br sm as_ go sh_ ki tg of_ kp rs ta pl cs ct ir oa ob th ig sp_ sf tw n k2_28 fw fb (by first | assumption | decide | omega) (by first | assumption | decide | omega) H.size) (cwV 6 hts gX11_rules_X11_isWord rfl rfl rfl (by decide +kernel) ⟨Nat.le_of_ble_eq_true rfl, Nat.le_of_ble_eq_true rfl⟩) (he_preV (wc := [(oX11 m0 tw ta (nI n) pl (nI k2_28) 0 fw cs fd rfm rt_ to_ rw_ wa ct rk rb cn br sm as_ go sh_ ir oa ob th ig sp_ ki tg of_ kp sf rs), (aI g fd 500 fb)]) hK hP hD hS hA hE [3, 4] rfl rfl 3 rfl rfl) rfl rfl hl.1 rfl (lv_room (Nat.le_of_ble_eq_true rfl)) dX11_rules_92 ⟨(Nat.le_of_ble_eq_true rfl), (Nat.le_of_ble_eq_true rfl)⟩) hP hD hS hA [3, 4] [0, 1, 2] rfl rfl rfl (by decide) (fun r_33 u_34 H locs h_35 hP hD hS => ?_)
          obtain ⟨k2_36, rfl⟩ : ∃ z, z = u_34 := ⟨_, rfl⟩
          try dsimp only at h_35
          obtain ⟨hf_37, hf_38, hf_39⟩ := h_35
          have hP : va_P g.1 vwCl [(aI g to_ 25 tl), (aI g rk 7 rk_), (aI g rb 36 rb_), (oX11 m0 tw ta (nI n) pl (nI k2_36) 0 fw cs fd rfm rt_ to_ rw_ wa ct rk rb cn br sm as_ go sh_ ir oa ob th ig sp_ ki tg of_ kp sf rs), (aI g fd 500 fb)] H := hP
          have hD : va_D A [(aI g to_ 25 tl), (aI g rk 7 rk_), (aI g rb 36 rb_), (oX11 m0 tw ta (nI n) pl (nI k2_36) 0 fw cs fd rfm rt_ to_ rw_ wa ct rk rb cn br sm as_ go sh_ ir oa ob th ig sp_ ki tg of_ kp sf rs), (aI g fd 500 fb)] := hD
          refine lv_if_eq (tgt := 102) hx hb dX11_rules_95 (by decide) (fun c_40 => ?_) (fun c_40 => ?_)
          · refine lv_aload_n hx hb dX11_rules_102 rfl (lv_at hl 0 rfl) ?_
            refine lv_bipush (v := 20) hx hb dX11_rules_103 (by decide) ?_
            refine lv_bipush (v := 9) hx hb dX11_rules_105 (by decide) ?_
            refine lv_bipush (v := 12) hx hb dX11_rules_107 (by decide) ?_
            refine lv_bipush (v := 12) hx hb dX11_rules_109 (by decide) ?_
            refine lv_iconst (v := 0) hx hb dX11_rules_111 (by decide) ?_
            refine lv_iconst (v := 0) hx hb dX11_rules_112 (by decide) ?_
            refine he_ci (wc := [(oX11 m0 tw ta (nI n) pl (nI k2_36) 0 fw cs fd rfm rt_ to_ rw_ wa ct rk rb cn br sm as_ go sh_ ir oa ob th ig sp_ ki tg of_ kp sf rs), (aI g fd 500 fb)]) (wr := [(aI g to_ 25 tl), (aI g rk 7 rk_), (aI g rb 36 rb_)]) (va_runV (As := [.int 20, .int 9, .int 12, .int 12, .int 0, .int 0]) (rest := []) ⟨hx, hb, hml, hown, hts⟩ (h_X11_isWord_20_9_12_12_0_0 l g m0 fd rfm rt_ to_ rw_ wa rk rb cn br sm as_ go sh_ ki tg of_ kp rs ta pl cs ct ir oa ob th ig sp_ sf tw n k2_36 fw fb (by first | assumption | decide | omega) (by first | assumption | decide | omega) H.size) (cwV 6 hts gX11_rules_X11_isWord rfl rfl rfl (by decide +kernel) ⟨Nat.le_of_ble_eq_true rfl, Nat.le_of_ble_eq_true rfl⟩) (he_preV (wc := [(oX11 m0 tw ta (nI n) pl (nI k2_36) 0 fw cs fd rfm rt_ to_ rw_ wa ct rk rb cn br sm as_ go sh_ ir oa ob th ig sp_ ki tg of_ kp sf rs), (aI g fd 500 fb)]) hK hP hD hS hA hE [3, 4] rfl rfl 3 rfl rfl) rfl rfl hl.1 rfl (lv_room (Nat.le_of_ble_eq_true rfl)) dX11_rules_113 ⟨(Nat.le_of_ble_eq_true rfl), (Nat.le_of_ble_eq_true rfl)⟩) hP hD hS hA [3, 4] [0, 1, 2] rfl rfl rfl (by decide) (fun r_41 u_42 H locs h_43 hP hD hS => ?_)
            obtain ⟨k2_44, rfl⟩ : ∃ z, z = u_42 := ⟨_, rfl⟩
            try dsimp only at h_43
            obtain ⟨hf_45, hf_46, hf_47⟩ := h_43
            have hP : va_P g.1 vwCl [(aI g to_ 25 tl), (aI g rk 7 rk_), (aI g rb 36 rb_), (oX11 m0 tw ta (nI n) pl (nI k2_44) 0 fw cs fd rfm rt_ to_ rw_ wa ct rk rb cn br sm as_ go sh_ ir oa ob th ig sp_ ki tg of_ kp sf rs), (aI g fd 500 fb)] H := hP
            have hD : va_D A [(aI g to_ 25 tl), (aI g rk 7 rk_), (aI g rb 36 rb_), (oX11 m0 tw ta (nI n) pl (nI k2_44) 0 fw cs fd rfm rt_ to_ rw_ wa ct rk rb cn br sm as_ go sh_ ir oa ob th ig sp_ ki tg of_ kp sf rs), (aI g fd 500 fb)] := hD
            refine lv_if_eq (tgt := 123) hx hb dX11_rules_116 (by decide) (fun c_48 => ?_) (fun c_48 => ?_)
            · refine lv_aload_n hx hb dX11_rules_123 rfl (lv_at hl 0 rfl) ?_
              refine lv_iconst (v := 2) hx hb dX11_rules_124 (by decide) ?_
              refine lv_bipush (v := 18) hx hb dX11_rules_125 (by decide) ?_
              refine lv_iconst (v := 5) hx hb dX11_rules_127 (by decide) ?_
              refine lv_iconst (v := 1) hx hb dX11_rules_128 (by decide) ?_
              refine lv_iconst (v := 3) hx hb dX11_rules_129 (by decide) ?_
              refine lv_bipush (v := 8) hx hb dX11_rules_130 (by decide) ?_
              refine he_ci (wc := [(oX11 m0 tw ta (nI n) pl (nI k2_44) 0 fw cs fd rfm rt_ to_ rw_ wa ct rk rb cn br sm as_ go sh_ ir oa ob th ig sp_ ki tg of_ kp sf rs), (aI g fd 500 fb)]) (wr := [(aI g to_ 25 tl), (aI g rk 7 rk_), (aI g rb 36 rb_)]) (va_runV (As := [.int 2, .int 18, .int 5, .int 1, .int 3, .int 8]) (rest := []) ⟨hx, hb, hml, hown, hts⟩ (h_X11_isWord_2_18_5_1_3_8 l g m0 fd rfm rt_ to_ rw_ wa rk rb cn br sm as_ go sh_ ki tg of_ kp rs ta pl cs ct ir oa ob th ig sp_ sf tw n k2_44 fw fb (by first | assumption | decide | omega) (by first | assumption | decide | omega) H.size) (cwV 6 hts gX11_rules_X11_isWord rfl rfl rfl (by decide +kernel) ⟨Nat.le_of_ble_eq_true rfl, Nat.le_of_ble_eq_true rfl⟩) (he_preV (wc := [(oX11 m0 tw ta (nI n) pl (nI k2_44) 0 fw cs fd rfm rt_ to_ rw_ wa ct rk rb cn br sm as_ go sh_ ir oa ob th ig sp_ ki tg of_ kp sf rs), (aI g fd 500 fb)]) hK hP hD hS hA hE [3, 4] rfl rfl 3 rfl rfl) rfl rfl hl.1 rfl (lv_room (Nat.le_of_ble_eq_true rfl)) dX11_rules_132 ⟨(Nat.le_of_ble_eq_true rfl), (Nat.le_of_ble_eq_true rfl)⟩) hP hD hS hA [3, 4] [0, 1, 2] rfl rfl rfl (by decide) (fun r_49 u_50 H locs h_51 hP hD hS => ?_)
              obtain ⟨k2_52, rfl⟩ : ∃ z, z = u_50 := ⟨_, rfl⟩
              try dsimp only at h_51
              obtain ⟨hf_53, hf_54, hf_55⟩ := h_51
              have hP : va_P g.1 vwCl [(aI g to_ 25 tl), (aI g rk 7 rk_), (aI g rb 36 rb_), (oX11 m0 tw ta (nI n) pl (nI k2_52) 0 fw cs fd rfm rt_ to_ rw_ wa ct rk rb cn br sm as_ go sh_ ir oa ob th ig sp_ ki tg of_ kp sf rs), (aI g fd 500 fb)] H := hP
              have hD : va_D A [(aI g to_ 25 tl), (aI g rk 7 rk_), (aI g rb 36 rb_), (oX11 m0 tw ta (nI n) pl (nI k2_52) 0 fw cs fd rfm rt_ to_ rw_ wa ct rk rb cn br sm as_ go sh_ ir oa ob th ig sp_ ki tg of_ kp sf rs), (aI g fd 500 fb)] := hD
              refine lv_if_eq (tgt := 143) hx hb dX11_rules_135 (by decide) (fun c_56 => ?_) (fun c_56 => ?_)
              · refine lv_iconst (v := (-1)) hx hb dX11_rules_143 (by decide) ?_
                refine lv_istore_n (lv' := [(1, .int (-1)), (0, .ref m0)]) hx hb dX11_rules_144 rfl hl (by decide) rfl (fun ls hl => ?_)
                refine lv_iload_n hx hb dX11_rules_145 rfl (lv_at hl 0 rfl) ?_
                refine lv_iconst (v := (-1)) hx hb dX11_rules_146 (by decide) ?_
                refine lv_icmp_ne (tgt := 162) hx hb dX11_rules_147 (by decide) (fun c_57 => ?_) (fun c_57 => ?_)
                · exact absurd (by decide) c_57
                · refine lv_aload_n hx hb dX11_rules_150 rfl (lv_at hl 1 rfl) ?_
                  refine lv_iconst (v := 1) hx hb dX11_rules_151 (by decide) ?_
                  refine lv_aload_n hx hb dX11_rules_152 rfl (lv_at hl 1 rfl) ?_
                  refine va_get (v := .int (nI k2_52)) (T := TX11) (N := 35) hx hb hts inX11 hown hK hP 3 rfl rfl 4 (by decide) f94 (fun _ h9 => h9) rfl dX11_rules_153 ?_
                  refine he_cv (wc := [(oX11 m0 tw ta (nI n) pl (nI k2_52) 0 fw cs fd rfm rt_ to_ rw_ wa ct rk rb cn br sm as_ go sh_ ir oa ob th ig sp_ ki tg of_ kp sf rs), (aI g fd 500 fb)]) (wr := [(aI g to_ 25 tl), (aI g rk 7 rk_), (aI g rb 36 rb_)]) (va_runV (As := [.int 1, .int (nI k2_52)]) (rest := []) ⟨hx, hb, hml, hown, hts⟩ (h_X11_wrong l g m0 fd rfm rt_ to_ rw_ wa rk rb cn br sm as_ go sh_ ki tg of_ kp rs ta pl cs ct ir oa ob th ig sp_ sf tw n k2_52 0 fw fb 1 (nI k2_52) H.size) (cwV 2 hts gX11_rules_X11_wrong rfl rfl rfl (by decide +kernel) ⟨Nat.le_of_ble_eq_true rfl, Nat.le_of_ble_eq_true rfl⟩) (he_preV (wc := [(oX11 m0 tw ta (nI n) pl (nI k2_52) 0 fw cs fd rfm rt_ to_ rw_ wa ct rk rb cn br sm as_ go sh_ ir oa ob th ig sp_ ki tg of_ kp sf rs), (aI g fd 500 fb)]) hK hP hD hS hA hE [3, 4] rfl rfl 3 rfl rfl) rfl rfl hl.1 rfl (lv_room (Nat.le_of_ble_eq_true rfl)) dX11_rules_156 ⟨(Nat.le_of_ble_eq_true rfl), (Nat.le_of_ble_eq_true rfl)⟩) hP hD hS hA [3, 4] [0, 1, 2] rfl rfl rfl (by decide) (fun u_59 H locs h_60 hP hD hS => ?_)
                  have hP : va_P g.1 vwCl [(aI g to_ 25 tl), (aI g rk 7 rk_), (aI g rb 36 rb_), (oX11 m0 tw ta (nI n) pl (nI k2_52) (wrF 0 1) (wrA 0 fw (nI k2_52)) cs fd rfm rt_ to_ rw_ wa ct rk rb cn br sm as_ go sh_ ir oa ob th ig sp_ ki tg of_ kp sf rs), (aI g fd 500 fb)] H := hP
                  have hD : va_D A [(aI g to_ 25 tl), (aI g rk 7 rk_), (aI g rb 36 rb_), (oX11 m0 tw ta (nI n) pl (nI k2_52) (wrF 0 1) (wrA 0 fw (nI k2_52)) cs fd rfm rt_ to_ rw_ wa ct rk rb cn br sm as_ go sh_ ir oa ob th ig sp_ ki tg of_ kp sf rs), (aI g fd 500 fb)] := hD
                  refine lv_goto (tgt := 180) hx hb dX11_rules_159 (by decide) ?_
                  refine lv_aload_n hx hb dX11_rules_180 rfl (lv_at hl 1 rfl) ?_
                  refine va_get (v := .int (wrF 0 1)) (T := TX11) (N := 35) hx hb hts inX11 hown hK hP 3 rfl rfl 5 (by decide) f101 (fun _ h9 => h9) rfl dX11_rules_181 ?_
                  refine lv_if_eq (tgt := 188) hx hb dX11_rules_184 (by decide) (fun c_61 => ?_) (fun c_61 => ?_)
                  · exact absurd c_61 (by decide)
                  · have hP := hP.sub (ws' := [(oX11 m0 tw ta (nI n) pl (nI k2_52) (wrF 0 1) (wrA 0 fw (nI k2_52)) cs fd rfm rt_ to_ rw_ wa ct rk rb cn br sm as_ go sh_ ir oa ob th ig sp_ ki tg of_ kp sf rs), (aI g fd 500 fb), (aI g to_ 25 tl), (aI g rk 7 rk_), (aI g rb 36 rb_)]) [3, 4, 0, 1, 2] rfl
                    have hD := hD.sub (ws' := [(oX11 m0 tw ta (nI n) pl (nI k2_52) (wrF 0 1) (wrA 0 fw (nI k2_52)) cs fd rfm rt_ to_ rw_ wa ct rk rb cn br sm as_ go sh_ ir oa ob th ig sp_ ki tg of_ kp sf rs), (aI g fd 500 fb), (aI g to_ 25 tl), (aI g rk 7 rk_), (aI g rb 36 rb_)]) [3, 4, 0, 1, 2] (by decide) rfl
                    exact he_rv hQ hx hb hr hlk hP hD hS dX11_rules_187 (Nat.le_of_ble_eq_true rfl) (Nat.le_of_ble_eq_true rfl) ((k2_52, wrF 0 1, wrA 0 fw (nI k2_52), cs, rk_, rb_)) (rfl) (by (try dsimp only); exact ⟨by (try dsimp only); omega, by (try dsimp only); omega, Or.inl (by (try dsimp only); decide), fun h9 => absurd h9 (by (try dsimp only); decide)⟩)
              · refine lv_bipush (v := 6) hx hb dX11_rules_138 (by decide) ?_
                refine lv_goto (tgt := 144) hx hb dX11_rules_140 (by decide) ?_
                refine lv_istore_n (lv' := [(1, .int 6), (0, .ref m0)]) hx hb dX11_rules_144 rfl hl (by decide) rfl (fun ls hl => ?_)
                refine lv_iload_n hx hb dX11_rules_145 rfl (lv_at hl 0 rfl) ?_
                refine lv_iconst (v := (-1)) hx hb dX11_rules_146 (by decide) ?_
                refine lv_icmp_ne (tgt := 162) hx hb dX11_rules_147 (by decide) (fun c_62 => ?_) (fun c_62 => ?_)
                · refine lv_aload_n hx hb dX11_rules_162 rfl (lv_at hl 1 rfl) ?_
                  refine va_get (v := .int cs) (T := TX11) (N := 35) hx hb hts inX11 hown hK hP 3 rfl rfl 7 (by decide) f131 (fun _ h9 => h9) rfl dX11_rules_163 ?_
                  refine lv_bipush (v := 20) hx hb dX11_rules_166 (by decide) ?_
                  refine lv_icmp_ne (tgt := 180) hx hb dX11_rules_168 (by decide) (fun c_63 => ?_) (fun c_63 => ?_)
                  · refine lv_aload_n hx hb dX11_rules_180 rfl (lv_at hl 1 rfl) ?_
                    refine va_get (v := .int 0) (T := TX11) (N := 35) hx hb hts inX11 hown hK hP 3 rfl rfl 5 (by decide) f101 (fun _ h9 => h9) rfl dX11_rules_181 ?_
                    refine lv_if_eq (tgt := 188) hx hb dX11_rules_184 (by decide) (fun c_64 => ?_) (fun c_64 => ?_)
                    · refine lv_aload_n hx hb dX11_rules_188 rfl (lv_at hl 1 rfl) ?_
                      refine he_cv (wc := [(oX11 m0 tw ta (nI n) pl (nI k2_52) 0 fw cs fd rfm rt_ to_ rw_ wa ct rk rb cn br sm as_ go sh_ ir oa ob th ig sp_ ki tg of_ kp sf rs), (aI g fd 500 fb)]) (wr := [(aI g to_ 25 tl), (aI g rk 7 rk_), (aI g rb 36 rb_)]) (va_runV (As := []) (rest := []) ⟨hx, hb, hml, hown, hts⟩ (h_X11_skipWord l g m0 fd rfm rt_ to_ rw_ wa rk rb cn br sm as_ go sh_ ki tg of_ kp rs ta pl cs ct ir oa ob th ig sp_ sf tw n k2_52 0 fw fb (by first | assumption | decide | omega) (by first | assumption | decide | omega) H.size) (cwV 0 hts gX11_rules_X11_skipWord rfl rfl rfl (by decide +kernel) ⟨Nat.le_of_ble_eq_true rfl, Nat.le_of_ble_eq_true rfl⟩) (he_preV (wc := [(oX11 m0 tw ta (nI n) pl (nI k2_52) 0 fw cs fd rfm rt_ to_ rw_ wa ct rk rb cn br sm as_ go sh_ ir oa ob th ig sp_ ki tg of_ kp sf rs), (aI g fd 500 fb)]) hK hP hD hS hA hE [3, 4] rfl rfl 3 rfl rfl) rfl rfl hl.1 rfl (lv_room (Nat.le_of_ble_eq_true rfl)) dX11_rules_189 ⟨(Nat.le_of_ble_eq_true rfl), (Nat.le_of_ble_eq_true rfl)⟩) hP hD hS hA [3, 4] [0, 1, 2] rfl rfl rfl (by decide) (fun u_66 H locs h_67 hP hD hS => ?_)
                      obtain ⟨k2_68, rfl⟩ : ∃ z, z = u_66 := ⟨_, rfl⟩
                      try dsimp only at h_67
                      obtain ⟨hf_69, hf_70⟩ := h_67
                      have hP : va_P g.1 vwCl [(aI g to_ 25 tl), (aI g rk 7 rk_), (aI g rb 36 rb_), (oX11 m0 tw ta (nI n) pl (nI k2_68) 0 fw cs fd rfm rt_ to_ rw_ wa ct rk rb cn br sm as_ go sh_ ir oa ob th ig sp_ ki tg of_ kp sf rs), (aI g fd 500 fb)] H := hP
                      have hD : va_D A [(aI g to_ 25 tl), (aI g rk 7 rk_), (aI g rb 36 rb_), (oX11 m0 tw ta (nI n) pl (nI k2_68) 0 fw cs fd rfm rt_ to_ rw_ wa ct rk rb cn br sm as_ go sh_ ir oa ob th ig sp_ ki tg of_ kp sf rs), (aI g fd 500 fb)] := hD
                      refine lv_aload_n hx hb dX11_rules_192 rfl (lv_at hl 1 rfl) ?_
                      refine lv_dup hx hb dX11_rules_193 rfl ?_
                      refine va_get (v := .int cs) (T := TX11) (N := 35) hx hb hts inX11 hown hK hP 3 rfl rfl 7 (by decide) f131 (fun _ h9 => h9) rfl dX11_rules_194 ?_
                      refine lv_iconst (v := 1) hx hb dX11_rules_197 (by decide) ?_
                      refine lv_iadd hx hb dX11_rules_198 ?_
                      refine va_put (v := .int (cs + 1)) (ty := .int) (T := TX11) (N := 35) hx hb hts inX11 tyX11 tyX11_ok nmX11 hown hK hP hD hS 3 rfl rfl 7 (by decide) f131 (fun _ h9 => h9) rfl (by decide +kernel) rfl rfl (Nat.le_of_ble_eq_true rfl) dX11_rules_199 (fun H locs hP hD hS => ?_)
                      have hP : va_P g.1 vwCl [(aI g to_ 25 tl), (aI g rk 7 rk_), (aI g rb 36 rb_), (oX11 m0 tw ta (nI n) pl (nI k2_68) 0 fw (cs + 1) fd rfm rt_ to_ rw_ wa ct rk rb cn br sm as_ go sh_ ir oa ob th ig sp_ ki tg of_ kp sf rs), (aI g fd 500 fb)] H := hP
                      have hD : va_D A [(aI g to_ 25 tl), (aI g rk 7 rk_), (aI g rb 36 rb_), (oX11 m0 tw ta (nI n) pl (nI k2_68) 0 fw (cs + 1) fd rfm rt_ to_ rw_ wa ct rk rb cn br sm as_ go sh_ ir oa ob th ig sp_ ki tg of_ kp sf rs), (aI g fd 500 fb)] := hD
                      refine lv_iload_n hx hb dX11_rules_202 rfl (lv_at hl 0 rfl) ?_
                      refine lv_bipush (v := 6) hx hb dX11_rules_203 (by decide) ?_
                      refine lv_icmp_ne (tgt := 247) hx hb dX11_rules_205 (by decide) (fun c_71 => ?_) (fun c_71 => ?_)
                      · exact absurd (by decide) c_71
                      · refine lv_aload_n hx hb dX11_rules_208 rfl (lv_at hl 1 rfl) ?_
                        refine lv_iconst (v := 0) hx hb dX11_rules_209 (by decide) ?_
                        refine lv_aload_n hx hb dX11_rules_210 rfl (lv_at hl 1 rfl) ?_
                        refine va_get (v := .ref to_) (T := TX11) (N := 35) hx hb hts inX11 hown hK hP 3 rfl rfl 11 (by decide) f23 (fun _ h9 => h9) rfl dX11_rules_211 ?_
                        refine lv_iconst (v := 0) hx hb dX11_rules_214 (by decide) ?_
                        refine he_iald hx hb hK hP 0 rfl (0) (by decide) (by decide) (by first | decide | assumption) (nI w) htl dX11_rules_215 ?_
                        refine lv_iconst (v := 1) hx hb dX11_rules_216 (by decide) ?_
                        refine lv_isub hx hb dX11_rules_217 ?_
                        refine he_ci (wc := [(oX11 m0 tw ta (nI n) pl (nI k2_68) 0 fw (cs + 1) fd rfm rt_ to_ rw_ wa ct rk rb cn br sm as_ go sh_ ir oa ob th ig sp_ ki tg of_ kp sf rs), (aI g fd 500 fb)]) (wr := [(aI g to_ 25 tl), (aI g rk 7 rk_), (aI g rb 36 rb_)]) (va_runV (As := [.int 0, .int ((nI w) - 1)]) (rest := []) ⟨hx, hb, hml, hown, hts⟩ (h_X11_number l g m0 fd rfm rt_ to_ rw_ wa rk rb cn br sm as_ go sh_ ki tg of_ kp rs ta pl (cs + 1) ct ir oa ob th ig sp_ sf tw n k2_68 0 fw fb 0 ((nI w) - 1) (by first | assumption | decide | omega) (by first | assumption | decide | omega) H.size) (cwV 2 hts gX11_rules_X11_number rfl rfl rfl (by decide +kernel) ⟨Nat.le_of_ble_eq_true rfl, Nat.le_of_ble_eq_true rfl⟩) (he_preV (wc := [(oX11 m0 tw ta (nI n) pl (nI k2_68) 0 fw (cs + 1) fd rfm rt_ to_ rw_ wa ct rk rb cn br sm as_ go sh_ ir oa ob th ig sp_ ki tg of_ kp sf rs), (aI g fd 500 fb)]) hK hP hD hS hA hE [3, 4] rfl rfl 3 rfl rfl) rfl rfl hl.1 rfl (lv_room (Nat.le_of_ble_eq_true rfl)) dX11_rules_218 ⟨(Nat.le_of_ble_eq_true rfl), (Nat.le_of_ble_eq_true rfl)⟩) hP hD hS hA [3, 4] [0, 1, 2] rfl rfl rfl (by decide) (fun r_72 u_73 H locs h_74 hP hD hS => ?_)
                        obtain ⟨k2_75, fb2_76, fw2_77⟩ := u_73
                        try dsimp only at h_74
                        obtain ⟨hf_78, hf_79, hf_80⟩ := h_74
                        have hP : va_P g.1 vwCl [(aI g to_ 25 tl), (aI g rk 7 rk_), (aI g rb 36 rb_), (oX11 m0 tw ta (nI n) pl (nI k2_75) fb2_76 fw2_77 (cs + 1) fd rfm rt_ to_ rw_ wa ct rk rb cn br sm as_ go sh_ ir oa ob th ig sp_ ki tg of_ kp sf rs), (aI g fd 500 fb)] H := hP
                        have hD : va_D A [(aI g to_ 25 tl), (aI g rk 7 rk_), (aI g rb 36 rb_), (oX11 m0 tw ta (nI n) pl (nI k2_75) fb2_76 fw2_77 (cs + 1) fd rfm rt_ to_ rw_ wa ct rk rb cn br sm as_ go sh_ ir oa ob th ig sp_ ki tg of_ kp sf rs), (aI g fd 500 fb)] := hD
                        refine lv_istore_n (lv' := [(2, .int r_72), (1, .int 6), (0, .ref m0)]) hx hb dX11_rules_221 rfl hl (by decide) rfl (fun ls hl => ?_)
                        refine lv_aload_n hx hb dX11_rules_222 rfl (lv_at hl 2 rfl) ?_
                        refine lv_iconst (v := 0) hx hb dX11_rules_223 (by decide) ?_
                        refine lv_bipush (v := 35) hx hb dX11_rules_224 (by decide) ?_
                        refine he_ci (wc := [(oX11 m0 tw ta (nI n) pl (nI k2_75) fb2_76 fw2_77 (cs + 1) fd rfm rt_ to_ rw_ wa ct rk rb cn br sm as_ go sh_ ir oa ob th ig sp_ ki tg of_ kp sf rs), (aI g fd 500 fb)]) (wr := [(aI g to_ 25 tl), (aI g rk 7 rk_), (aI g rb 36 rb_)]) (va_runV (As := [.int 0, .int 35]) (rest := []) ⟨hx, hb, hml, hown, hts⟩ (h_X11_number l g m0 fd rfm rt_ to_ rw_ wa rk rb cn br sm as_ go sh_ ki tg of_ kp rs ta pl (cs + 1) ct ir oa ob th ig sp_ sf tw n k2_75 fb2_76 fw2_77 fb 0 35 (by first | assumption | decide | omega) (by first | assumption | decide | omega) H.size) (cwV 2 hts gX11_rules_X11_number rfl rfl rfl (by decide +kernel) ⟨Nat.le_of_ble_eq_true rfl, Nat.le_of_ble_eq_true rfl⟩) (he_preV (wc := [(oX11 m0 tw ta (nI n) pl (nI k2_75) fb2_76 fw2_77 (cs + 1) fd rfm rt_ to_ rw_ wa ct rk rb cn br sm as_ go sh_ ir oa ob th ig sp_ ki tg of_ kp sf rs), (aI g fd 500 fb)]) hK hP hD hS hA hE [3, 4] rfl rfl 3 rfl rfl) rfl rfl hl.1 rfl (lv_room (Nat.le_of_ble_eq_true rfl)) dX11_rules_226 ⟨(Nat.le_of_ble_eq_true rfl), (Nat.le_of_ble_eq_true rfl)⟩) hP hD hS hA [3, 4] [0, 1, 2] rfl rfl rfl (by decide) (fun r_81 u_82 H locs h_83 hP hD hS => ?_)
                        obtain ⟨k2_84, fb2_85, fw2_86⟩ := u_82
                        try dsimp only at h_83
                        obtain ⟨hf_87, hf_88, hf_89⟩ := h_83
                        have hP : va_P g.1 vwCl [(aI g to_ 25 tl), (aI g rk 7 rk_), (aI g rb 36 rb_), (oX11 m0 tw ta (nI n) pl (nI k2_84) fb2_85 fw2_86 (cs + 1) fd rfm rt_ to_ rw_ wa ct rk rb cn br sm as_ go sh_ ir oa ob th ig sp_ ki tg of_ kp sf rs), (aI g fd 500 fb)] H := hP
                        have hD : va_D A [(aI g to_ 25 tl), (aI g rk 7 rk_), (aI g rb 36 rb_), (oX11 m0 tw ta (nI n) pl (nI k2_84) fb2_85 fw2_86 (cs + 1) fd rfm rt_ to_ rw_ wa ct rk rb cn br sm as_ go sh_ ir oa ob th ig sp_ ki tg of_ kp sf rs), (aI g fd 500 fb)] := hD
                        obtain ⟨j9, hj9, rfl⟩ := num_in (B := 35) (by decide) hf_89
                        refine lv_istore_n (lv' := [(3, .int (nI j9)), (2, .int r_72), (1, .int 6), (0, .ref m0)]) hx hb dX11_rules_229 rfl hl (by decide) rfl (fun ls hl => ?_)
                        refine lv_aload_n hx hb dX11_rules_230 rfl (lv_at hl 3 rfl) ?_
                        refine va_get (v := .int fb2_85) (T := TX11) (N := 35) hx hb hts inX11 hown hK hP 3 rfl rfl 5 (by decide) f101 (fun _ h9 => h9) rfl dX11_rules_231 ?_
                        refine lv_if_ne (tgt := 244) hx hb dX11_rules_234 (by decide) (fun c_90 => ?_) (fun c_90 => ?_)
                        · refine lv_goto (tgt := 300) hx hb dX11_rules_244 (by decide) ?_
                          refine lv_aload_n hx hb dX11_rules_300 rfl (lv_at hl 3 rfl) ?_
                          refine he_cv (wc := [(oX11 m0 tw ta (nI n) pl (nI k2_84) fb2_85 fw2_86 (cs + 1) fd rfm rt_ to_ rw_ wa ct rk rb cn br sm as_ go sh_ ir oa ob th ig sp_ ki tg of_ kp sf rs), (aI g fd 500 fb)]) (wr := [(aI g to_ 25 tl), (aI g rk 7 rk_), (aI g rb 36 rb_)]) (va_runV (As := []) (rest := []) ⟨hx, hb, hml, hown, hts⟩ (h_X11_closes l g m0 fd rfm rt_ to_ rw_ wa rk rb cn br sm as_ go sh_ ki tg of_ kp rs ta pl (cs + 1) ct ir oa ob th ig sp_ sf tw n k2_84 fb2_85 fw2_86 fb (by first | assumption | decide | omega) (by first | assumption | decide | omega) H.size) (cwV 0 hts gX11_rules_X11_closes rfl rfl rfl (by decide +kernel) ⟨Nat.le_of_ble_eq_true rfl, Nat.le_of_ble_eq_true rfl⟩) (he_preV (wc := [(oX11 m0 tw ta (nI n) pl (nI k2_84) fb2_85 fw2_86 (cs + 1) fd rfm rt_ to_ rw_ wa ct rk rb cn br sm as_ go sh_ ir oa ob th ig sp_ ki tg of_ kp sf rs), (aI g fd 500 fb)]) hK hP hD hS hA hE [3, 4] rfl rfl 3 rfl rfl) rfl rfl hl.1 rfl (lv_room (Nat.le_of_ble_eq_true rfl)) dX11_rules_301 ⟨(Nat.le_of_ble_eq_true rfl), (Nat.le_of_ble_eq_true rfl)⟩) hP hD hS hA [3, 4] [0, 1, 2] rfl rfl rfl (by decide) (fun u_92 H locs h_93 hP hD hS => ?_)
                          obtain ⟨k2_94, fb2_95, fw2_96⟩ := u_92
                          try dsimp only at h_93
                          obtain ⟨hf_97, hf_98, hf_99⟩ := h_93
                          have hP : va_P g.1 vwCl [(aI g to_ 25 tl), (aI g rk 7 rk_), (aI g rb 36 rb_), (oX11 m0 tw ta (nI n) pl (nI k2_94) fb2_95 fw2_96 (cs + 1) fd rfm rt_ to_ rw_ wa ct rk rb cn br sm as_ go sh_ ir oa ob th ig sp_ ki tg of_ kp sf rs), (aI g fd 500 fb)] H := hP
                          have hD : va_D A [(aI g to_ 25 tl), (aI g rk 7 rk_), (aI g rb 36 rb_), (oX11 m0 tw ta (nI n) pl (nI k2_94) fb2_95 fw2_96 (cs + 1) fd rfm rt_ to_ rw_ wa ct rk rb cn br sm as_ go sh_ ir oa ob th ig sp_ ki tg of_ kp sf rs), (aI g fd 500 fb)] := hD
                          have hP := hP.sub (ws' := [(oX11 m0 tw ta (nI n) pl (nI k2_94) fb2_95 fw2_96 (cs + 1) fd rfm rt_ to_ rw_ wa ct rk rb cn br sm as_ go sh_ ir oa ob th ig sp_ ki tg of_ kp sf rs), (aI g fd 500 fb), (aI g to_ 25 tl), (aI g rk 7 rk_), (aI g rb 36 rb_)]) [3, 4, 0, 1, 2] rfl
                          have hD := hD.sub (ws' := [(oX11 m0 tw ta (nI n) pl (nI k2_94) fb2_95 fw2_96 (cs + 1) fd rfm rt_ to_ rw_ wa ct rk rb cn br sm as_ go sh_ ir oa ob th ig sp_ ki tg of_ kp sf rs), (aI g fd 500 fb), (aI g to_ 25 tl), (aI g rk 7 rk_), (aI g rb 36 rb_)]) [3, 4, 0, 1, 2] (by decide) rfl
                          exact he_rv hQ hx hb hr hlk hP hD hS dX11_rules_304 (Nat.le_of_ble_eq_true rfl) (Nat.le_of_ble_eq_true rfl) ((k2_94, fb2_95, fw2_96, cs + 1, rk_, rb_)) (rfl) (by (try dsimp only); exact ⟨by (try dsimp only); omega, by (try dsimp only); omega, (hf_99.imp_right (fun h9 => ⟨h9.1, by have := h9.2.2; omega⟩)), fun h9 => absurd (hf_99.resolve_left (fun h8 => h8 h9)).2.1 c_90⟩)
                        · refine lv_aload_n hx hb dX11_rules_237 rfl (lv_at hl 3 rfl) ?_
                          refine va_get (v := .ref rb) (T := TX11) (N := 35) hx hb hts inX11 hown hK hP 3 rfl rfl 16 (by decide) f37 (fun _ h9 => h9) rfl dX11_rules_238 ?_
                          refine lv_iload_n hx hb dX11_rules_241 rfl (lv_at hl 0 rfl) ?_
                          refine lv_iload_n hx hb dX11_rules_242 rfl (lv_at hl 1 rfl) ?_
                          refine he_iast hx hb hK hP hD hS 2 rfl (j9) rfl (by first | assumption | decide | omega) (by first | decide | assumption) dX11_rules_243 (fun H locs hP hD hS => ?_)
                          have hP : va_P g.1 vwCl [(aI g to_ 25 tl), (aI g rk 7 rk_), (aI g rb 36 (upd rb_ j9 r_72)), (oX11 m0 tw ta (nI n) pl (nI k2_84) fb2_85 fw2_86 (cs + 1) fd rfm rt_ to_ rw_ wa ct rk rb cn br sm as_ go sh_ ir oa ob th ig sp_ ki tg of_ kp sf rs), (aI g fd 500 fb)] H := hP
                          have hD : va_D A [(aI g to_ 25 tl), (aI g rk 7 rk_), (aI g rb 36 (upd rb_ j9 r_72)), (oX11 m0 tw ta (nI n) pl (nI k2_84) fb2_85 fw2_86 (cs + 1) fd rfm rt_ to_ rw_ wa ct rk rb cn br sm as_ go sh_ ir oa ob th ig sp_ ki tg of_ kp sf rs), (aI g fd 500 fb)] := hD
                          refine lv_goto (tgt := 300) hx hb dX11_rules_244 (by decide) ?_
                          refine lv_aload_n hx hb dX11_rules_300 rfl (lv_at hl 3 rfl) ?_
                          refine he_cv (wc := [(oX11 m0 tw ta (nI n) pl (nI k2_84) fb2_85 fw2_86 (cs + 1) fd rfm rt_ to_ rw_ wa ct rk rb cn br sm as_ go sh_ ir oa ob th ig sp_ ki tg of_ kp sf rs), (aI g fd 500 fb)]) (wr := [(aI g to_ 25 tl), (aI g rk 7 rk_), (aI g rb 36 (upd rb_ j9 r_72))]) (va_runV (As := []) (rest := []) ⟨hx, hb, hml, hown, hts⟩ (h_X11_closes l g m0 fd rfm rt_ to_ rw_ wa rk rb cn br sm as_ go sh_ ki tg of_ kp rs ta pl (cs + 1) ct ir oa ob th ig sp_ sf tw n k2_84 fb2_85 fw2_86 fb (by first | assumption | decide | omega) (by first | assumption | decide | omega) H.size) (cwV 0 hts gX11_rules_X11_closes rfl rfl rfl (by decide +kernel) ⟨Nat.le_of_ble_eq_true rfl, Nat.le_of_ble_eq_true rfl⟩) (he_preV (wc := [(oX11 m0 tw ta (nI n) pl (nI k2_84) fb2_85 fw2_86 (cs + 1) fd rfm rt_ to_ rw_ wa ct rk rb cn br sm as_ go sh_ ir oa ob th ig sp_ ki tg of_ kp sf rs), (aI g fd 500 fb)]) hK hP hD hS hA hE [3, 4] rfl rfl 3 rfl rfl) rfl rfl hl.1 rfl (lv_room (Nat.le_of_ble_eq_true rfl)) dX11_rules_301 ⟨(Nat.le_of_ble_eq_true rfl), (Nat.le_of_ble_eq_true rfl)⟩) hP hD hS hA [3, 4] [0, 1, 2] rfl rfl rfl (by decide) (fun u_101 H locs h_102 hP hD hS => ?_)
                          obtain ⟨k2_103, fb2_104, fw2_105⟩ := u_101
                          try dsimp only at h_102
                          obtain ⟨hf_106, hf_107, hf_108⟩ := h_102
                          have hP : va_P g.1 vwCl [(aI g to_ 25 tl), (aI g rk 7 rk_), (aI g rb 36 (upd rb_ j9 r_72)), (oX11 m0 tw ta (nI n) pl (nI k2_103) fb2_104 fw2_105 (cs + 1) fd rfm rt_ to_ rw_ wa ct rk rb cn br sm as_ go sh_ ir oa ob th ig sp_ ki tg of_ kp sf rs), (aI g fd 500 fb)] H := hP
                          have hD : va_D A [(aI g to_ 25 tl), (aI g rk 7 rk_), (aI g rb 36 (upd rb_ j9 r_72)), (oX11 m0 tw ta (nI n) pl (nI k2_103) fb2_104 fw2_105 (cs + 1) fd rfm rt_ to_ rw_ wa ct rk rb cn br sm as_ go sh_ ir oa ob th ig sp_ ki tg of_ kp sf rs), (aI g fd 500 fb)] := hD
                          have hP := hP.sub (ws' := [(oX11 m0 tw ta (nI n) pl (nI k2_103) fb2_104 fw2_105 (cs + 1) fd rfm rt_ to_ rw_ wa ct rk rb cn br sm as_ go sh_ ir oa ob th ig sp_ ki tg of_ kp sf rs), (aI g fd 500 fb), (aI g to_ 25 tl), (aI g rk 7 rk_), (aI g rb 36 (upd rb_ j9 r_72))]) [3, 4, 0, 1, 2] rfl
                          have hD := hD.sub (ws' := [(oX11 m0 tw ta (nI n) pl (nI k2_103) fb2_104 fw2_105 (cs + 1) fd rfm rt_ to_ rw_ wa ct rk rb cn br sm as_ go sh_ ir oa ob th ig sp_ ki tg of_ kp sf rs), (aI g fd 500 fb), (aI g to_ 25 tl), (aI g rk 7 rk_), (aI g rb 36 (upd rb_ j9 r_72))]) [3, 4, 0, 1, 2] (by decide) rfl
                          exact he_rv hQ hx hb hr hlk hP hD hS dX11_rules_304 (Nat.le_of_ble_eq_true rfl) (Nat.le_of_ble_eq_true rfl) ((k2_103, fb2_104, fw2_105, cs + 1, rk_, upd rb_ j9 r_72)) (rfl) (by (try dsimp only); exact ⟨by (try dsimp only); omega, by (try dsimp only); omega, (hf_108.imp_right (fun h9 => ⟨h9.1, by have := h9.2.2; omega⟩)), fun h9 => ⟨hc, bOk_upd hbo (Or.inr (num_w hw6 hf_80 (fun h7 => h7 (hf_89.resolve_left (fun h8 => h8.1 c_90)).2.1)))⟩⟩)
                    · exact absurd (by decide) c_64
                  · refine lv_aload_n hx hb dX11_rules_171 rfl (lv_at hl 1 rfl) ?_
                    refine lv_iconst (v := 3) hx hb dX11_rules_172 (by decide) ?_
                    refine lv_aload_n hx hb dX11_rules_173 rfl (lv_at hl 1 rfl) ?_
                    refine va_get (v := .int (nI k2_52)) (T := TX11) (N := 35) hx hb hts inX11 hown hK hP 3 rfl rfl 4 (by decide) f94 (fun _ h9 => h9) rfl dX11_rules_174 ?_
                    refine he_cv (wc := [(oX11 m0 tw ta (nI n) pl (nI k2_52) 0 fw cs fd rfm rt_ to_ rw_ wa ct rk rb cn br sm as_ go sh_ ir oa ob th ig sp_ ki tg of_ kp sf rs), (aI g fd 500 fb)]) (wr := [(aI g to_ 25 tl), (aI g rk 7 rk_), (aI g rb 36 rb_)]) (va_runV (As := [.int 3, .int (nI k2_52)]) (rest := []) ⟨hx, hb, hml, hown, hts⟩ (h_X11_wrong l g m0 fd rfm rt_ to_ rw_ wa rk rb cn br sm as_ go sh_ ki tg of_ kp rs ta pl cs ct ir oa ob th ig sp_ sf tw n k2_52 0 fw fb 3 (nI k2_52) H.size) (cwV 2 hts gX11_rules_X11_wrong rfl rfl rfl (by decide +kernel) ⟨Nat.le_of_ble_eq_true rfl, Nat.le_of_ble_eq_true rfl⟩) (he_preV (wc := [(oX11 m0 tw ta (nI n) pl (nI k2_52) 0 fw cs fd rfm rt_ to_ rw_ wa ct rk rb cn br sm as_ go sh_ ir oa ob th ig sp_ ki tg of_ kp sf rs), (aI g fd 500 fb)]) hK hP hD hS hA hE [3, 4] rfl rfl 3 rfl rfl) rfl rfl hl.1 rfl (lv_room (Nat.le_of_ble_eq_true rfl)) dX11_rules_177 ⟨(Nat.le_of_ble_eq_true rfl), (Nat.le_of_ble_eq_true rfl)⟩) hP hD hS hA [3, 4] [0, 1, 2] rfl rfl rfl (by decide) (fun u_110 H locs h_111 hP hD hS => ?_)
                    have hP : va_P g.1 vwCl [(aI g to_ 25 tl), (aI g rk 7 rk_), (aI g rb 36 rb_), (oX11 m0 tw ta (nI n) pl (nI k2_52) (wrF 0 3) (wrA 0 fw (nI k2_52)) cs fd rfm rt_ to_ rw_ wa ct rk rb cn br sm as_ go sh_ ir oa ob th ig sp_ ki tg of_ kp sf rs), (aI g fd 500 fb)] H := hP
                    have hD : va_D A [(aI g to_ 25 tl), (aI g rk 7 rk_), (aI g rb 36 rb_), (oX11 m0 tw ta (nI n) pl (nI k2_52) (wrF 0 3) (wrA 0 fw (nI k2_52)) cs fd rfm rt_ to_ rw_ wa ct rk rb cn br sm as_ go sh_ ir oa ob th ig sp_ ki tg of_ kp sf rs), (aI g fd 500 fb)] := hD
                    refine lv_aload_n hx hb dX11_rules_180 rfl (lv_at hl 1 rfl) ?_
                    refine va_get (v := .int (wrF 0 3)) (T := TX11) (N := 35) hx hb hts inX11 hown hK hP 3 rfl rfl 5 (by decide) f101 (fun _ h9 => h9) rfl dX11_rules_181 ?_
                    refine lv_if_eq (tgt := 188) hx hb dX11_rules_184 (by decide) (fun c_112 => ?_) (fun c_112 => ?_)
                    · exact absurd c_112 (by decide)
                    · have hP := hP.sub (ws' := [(oX11 m0 tw ta (nI n) pl (nI k2_52) (wrF 0 3) (wrA 0 fw (nI k2_52)) cs fd rfm rt_ to_ rw_ wa ct rk rb cn br sm as_ go sh_ ir oa ob th ig sp_ ki tg of_ kp sf rs), (aI g fd 500 fb), (aI g to_ 25 tl), (aI g rk 7 rk_), (aI g rb 36 rb_)]) [3, 4, 0, 1, 2] rfl
                      have hD := hD.sub (ws' := [(oX11 m0 tw ta (nI n) pl (nI k2_52) (wrF 0 3) (wrA 0 fw (nI k2_52)) cs fd rfm rt_ to_ rw_ wa ct rk rb cn br sm as_ go sh_ ir oa ob th ig sp_ ki tg of_ kp sf rs), (aI g fd 500 fb), (aI g to_ 25 tl), (aI g rk 7 rk_), (aI g rb 36 rb_)]) [3, 4, 0, 1, 2] (by decide) rfl
                      exact he_rv hQ hx hb hr hlk hP hD hS dX11_rules_187 (Nat.le_of_ble_eq_true rfl) (Nat.le_of_ble_eq_true rfl) ((k2_52, wrF 0 3, wrA 0 fw (nI k2_52), cs, rk_, rb_)) (rfl) (by (try dsimp only); exact ⟨by (try dsimp only); omega, by (try dsimp only); omega, Or.inl (by (try dsimp only); decide), fun h9 => absurd h9 (by (try dsimp only); decide)⟩)
                · exact absurd c_62 (by decide)
            · refine lv_iconst (v := 5) hx hb dX11_rules_119 (by decide) ?_
              refine lv_goto (tgt := 144) hx hb dX11_rules_120 (by decide) ?_
              refine lv_istore_n (lv' := [(1, .int 5), (0, .ref m0)]) hx hb dX11_rules_144 rfl hl (by decide) rfl (fun ls hl => ?_)
              refine lv_iload_n hx hb dX11_rules_145 rfl (lv_at hl 0 rfl) ?_
              refine lv_iconst (v := (-1)) hx hb dX11_rules_146 (by decide) ?_
              refine lv_icmp_ne (tgt := 162) hx hb dX11_rules_147 (by decide) (fun c_113 => ?_) (fun c_113 => ?_)
              · refine lv_aload_n hx hb dX11_rules_162 rfl (lv_at hl 1 rfl) ?_
                refine va_get (v := .int cs) (T := TX11) (N := 35) hx hb hts inX11 hown hK hP 3 rfl rfl 7 (by decide) f131 (fun _ h9 => h9) rfl dX11_rules_163 ?_
                refine lv_bipush (v := 20) hx hb dX11_rules_166 (by decide) ?_
                refine lv_icmp_ne (tgt := 180) hx hb dX11_rules_168 (by decide) (fun c_114 => ?_) (fun c_114 => ?_)
                · refine lv_aload_n hx hb dX11_rules_180 rfl (lv_at hl 1 rfl) ?_
                  refine va_get (v := .int 0) (T := TX11) (N := 35) hx hb hts inX11 hown hK hP 3 rfl rfl 5 (by decide) f101 (fun _ h9 => h9) rfl dX11_rules_181 ?_
                  refine lv_if_eq (tgt := 188) hx hb dX11_rules_184 (by decide) (fun c_115 => ?_) (fun c_115 => ?_)
                  · refine lv_aload_n hx hb dX11_rules_188 rfl (lv_at hl 1 rfl) ?_
                    refine he_cv (wc := [(oX11 m0 tw ta (nI n) pl (nI k2_44) 0 fw cs fd rfm rt_ to_ rw_ wa ct rk rb cn br sm as_ go sh_ ir oa ob th ig sp_ ki tg of_ kp sf rs), (aI g fd 500 fb)]) (wr := [(aI g to_ 25 tl), (aI g rk 7 rk_), (aI g rb 36 rb_)]) (va_runV (As := []) (rest := []) ⟨hx, hb, hml, hown, hts⟩ (h_X11_skipWord l g m0 fd rfm rt_ to_ rw_ wa rk rb cn br sm as_ go sh_ ki tg of_ kp rs ta pl cs ct ir oa ob th ig sp_ sf tw n k2_44 0 fw fb (by first | assumption | decide | omega) (by first | assumption | decide | omega) H.size) (cwV 0 hts gX11_rules_X11_skipWord rfl rfl rfl (by decide +kernel) ⟨Nat.le_of_ble_eq_true rfl, Nat.le_of_ble_eq_true rfl⟩) (he_preV (wc := [(oX11 m0 tw ta (nI n) pl (nI k2_44) 0 fw cs fd rfm rt_ to_ rw_ wa ct rk rb cn br sm as_ go sh_ ir oa ob th ig sp_ ki tg of_ kp sf rs), (aI g fd 500 fb)]) hK hP hD hS hA hE [3, 4] rfl rfl 3 rfl rfl) rfl rfl hl.1 rfl (lv_room (Nat.le_of_ble_eq_true rfl)) dX11_rules_189 ⟨(Nat.le_of_ble_eq_true rfl), (Nat.le_of_ble_eq_true rfl)⟩) hP hD hS hA [3, 4] [0, 1, 2] rfl rfl rfl (by decide) (fun u_117 H locs h_118 hP hD hS => ?_)
                    obtain ⟨k2_119, rfl⟩ : ∃ z, z = u_117 := ⟨_, rfl⟩
                    try dsimp only at h_118
                    obtain ⟨hf_120, hf_121⟩ := h_118
                    have hP : va_P g.1 vwCl [(aI g to_ 25 tl), (aI g rk 7 rk_), (aI g rb 36 rb_), (oX11 m0 tw ta (nI n) pl (nI k2_119) 0 fw cs fd rfm rt_ to_ rw_ wa ct rk rb cn br sm as_ go sh_ ir oa ob th ig sp_ ki tg of_ kp sf rs), (aI g fd 500 fb)] H := hP
                    have hD : va_D A [(aI g to_ 25 tl), (aI g rk 7 rk_), (aI g rb 36 rb_), (oX11 m0 tw ta (nI n) pl (nI k2_119) 0 fw cs fd rfm rt_ to_ rw_ wa ct rk rb cn br sm as_ go sh_ ir oa ob th ig sp_ ki tg of_ kp sf rs), (aI g fd 500 fb)] := hD
                    refine lv_aload_n hx hb dX11_rules_192 rfl (lv_at hl 1 rfl) ?_
                    refine lv_dup hx hb dX11_rules_193 rfl ?_
                    refine va_get (v := .int cs) (T := TX11) (N := 35) hx hb hts inX11 hown hK hP 3 rfl rfl 7 (by decide) f131 (fun _ h9 => h9) rfl dX11_rules_194 ?_
                    refine lv_iconst (v := 1) hx hb dX11_rules_197 (by decide) ?_
                    refine lv_iadd hx hb dX11_rules_198 ?_
                    refine va_put (v := .int (cs + 1)) (ty := .int) (T := TX11) (N := 35) hx hb hts inX11 tyX11 tyX11_ok nmX11 hown hK hP hD hS 3 rfl rfl 7 (by decide) f131 (fun _ h9 => h9) rfl (by decide +kernel) rfl rfl (Nat.le_of_ble_eq_true rfl) dX11_rules_199 (fun H locs hP hD hS => ?_)
                    have hP : va_P g.1 vwCl [(aI g to_ 25 tl), (aI g rk 7 rk_), (aI g rb 36 rb_), (oX11 m0 tw ta (nI n) pl (nI k2_119) 0 fw (cs + 1) fd rfm rt_ to_ rw_ wa ct rk rb cn br sm as_ go sh_ ir oa ob th ig sp_ ki tg of_ kp sf rs), (aI g fd 500 fb)] H := hP
                    have hD : va_D A [(aI g to_ 25 tl), (aI g rk 7 rk_), (aI g rb 36 rb_), (oX11 m0 tw ta (nI n) pl (nI k2_119) 0 fw (cs + 1) fd rfm rt_ to_ rw_ wa ct rk rb cn br sm as_ go sh_ ir oa ob th ig sp_ ki tg of_ kp sf rs), (aI g fd 500 fb)] := hD
                    refine lv_iload_n hx hb dX11_rules_202 rfl (lv_at hl 0 rfl) ?_
                    refine lv_bipush (v := 6) hx hb dX11_rules_203 (by decide) ?_
                    refine lv_icmp_ne (tgt := 247) hx hb dX11_rules_205 (by decide) (fun c_122 => ?_) (fun c_122 => ?_)
                    · refine lv_aload_n hx hb dX11_rules_247 rfl (lv_at hl 1 rfl) ?_
                      refine va_get (v := .ref rk) (T := TX11) (N := 35) hx hb hts inX11 hown hK hP 3 rfl rfl 15 (by decide) f34 (fun _ h9 => h9) rfl dX11_rules_248 ?_
                      refine lv_iload_n hx hb dX11_rules_251 rfl (lv_at hl 0 rfl) ?_
                      refine lv_aload_n hx hb dX11_rules_252 rfl (lv_at hl 1 rfl) ?_
                      refine lv_iload_n hx hb dX11_rules_253 rfl (lv_at hl 0 rfl) ?_
                      refine lv_iconst (v := 5) hx hb dX11_rules_254 (by decide) ?_
                      refine lv_icmp_ne (tgt := 262) hx hb dX11_rules_255 (by decide) (fun c_123 => ?_) (fun c_123 => ?_)
                      · exact absurd (by decide) c_123
                      · refine lv_iconst (v := 1) hx hb dX11_rules_258 (by decide) ?_
                        refine lv_goto (tgt := 263) hx hb dX11_rules_259 (by decide) ?_
                        refine lv_iload_n hx hb dX11_rules_263 rfl (lv_at hl 0 rfl) ?_
                        refine lv_iconst (v := 2) hx hb dX11_rules_264 (by decide) ?_
                        refine lv_icmp_ge (tgt := 274) hx hb dX11_rules_265 (by decide) (fun c_124 => ?_) (fun c_124 => ?_)
                        · refine lv_iload_n hx hb dX11_rules_274 rfl (lv_at hl 0 rfl) ?_
                          refine lv_iconst (v := 2) hx hb dX11_rules_275 (by decide) ?_
                          refine lv_icmp_ne (tgt := 284) hx hb dX11_rules_276 (by decide) (fun c_125 => ?_) (fun c_125 => ?_)
                          · refine lv_iload_n hx hb dX11_rules_284 rfl (lv_at hl 0 rfl) ?_
                            refine lv_iconst (v := 5) hx hb dX11_rules_285 (by decide) ?_
                            refine lv_icmp_ne (tgt := 294) hx hb dX11_rules_286 (by decide) (fun c_126 => ?_) (fun c_126 => ?_)
                            · exact absurd (by decide) c_126
                            · refine lv_bipush (v := 36) hx hb dX11_rules_289 (by decide) ?_
                              refine lv_goto (tgt := 296) hx hb dX11_rules_291 (by decide) ?_
                              refine he_ci (wc := [(oX11 m0 tw ta (nI n) pl (nI k2_119) 0 fw (cs + 1) fd rfm rt_ to_ rw_ wa ct rk rb cn br sm as_ go sh_ ir oa ob th ig sp_ ki tg of_ kp sf rs), (aI g fd 500 fb)]) (wr := [(aI g to_ 25 tl), (aI g rk 7 rk_), (aI g rb 36 rb_)]) (va_runV (As := [.int 1, .int 36]) (rest := [.int 5, .ref rk]) ⟨hx, hb, hml, hown, hts⟩ (h_X11_number l g m0 fd rfm rt_ to_ rw_ wa rk rb cn br sm as_ go sh_ ki tg of_ kp rs ta pl (cs + 1) ct ir oa ob th ig sp_ sf tw n k2_119 0 fw fb 1 36 (by first | assumption | decide | omega) (by first | assumption | decide | omega) H.size) (cwV 2 hts gX11_rules_X11_number rfl rfl rfl (by decide +kernel) ⟨Nat.le_of_ble_eq_true rfl, Nat.le_of_ble_eq_true rfl⟩) (he_preV (wc := [(oX11 m0 tw ta (nI n) pl (nI k2_119) 0 fw (cs + 1) fd rfm rt_ to_ rw_ wa ct rk rb cn br sm as_ go sh_ ir oa ob th ig sp_ ki tg of_ kp sf rs), (aI g fd 500 fb)]) hK hP hD hS hA hE [3, 4] rfl rfl 3 rfl rfl) rfl rfl hl.1 rfl (lv_room (Nat.le_of_ble_eq_true rfl)) dX11_rules_296 ⟨(Nat.le_of_ble_eq_true rfl), (Nat.le_of_ble_eq_true rfl)⟩) hP hD hS hA [3, 4] [0, 1, 2] rfl rfl rfl (by decide) (fun r_127 u_128 H locs h_129 hP hD hS => ?_)
                              obtain ⟨k2_130, fb2_131, fw2_132⟩ := u_128
                              try dsimp only at h_129
                              obtain ⟨hf_133, hf_134, hf_135⟩ := h_129
                              have hP : va_P g.1 vwCl [(aI g to_ 25 tl), (aI g rk 7 rk_), (aI g rb 36 rb_), (oX11 m0 tw ta (nI n) pl (nI k2_130) fb2_131 fw2_132 (cs + 1) fd rfm rt_ to_ rw_ wa ct rk rb cn br sm as_ go sh_ ir oa ob th ig sp_ ki tg of_ kp sf rs), (aI g fd 500 fb)] H := hP
                              have hD : va_D A [(aI g to_ 25 tl), (aI g rk 7 rk_), (aI g rb 36 rb_), (oX11 m0 tw ta (nI n) pl (nI k2_130) fb2_131 fw2_132 (cs + 1) fd rfm rt_ to_ rw_ wa ct rk rb cn br sm as_ go sh_ ir oa ob th ig sp_ ki tg of_ kp sf rs), (aI g fd 500 fb)] := hD
                              refine he_iast hx hb hK hP hD hS 1 rfl (5) (by decide) (by decide) (by first | decide | assumption) dX11_rules_299 (fun H locs hP hD hS => ?_)
                              have hP : va_P g.1 vwCl [(aI g to_ 25 tl), (aI g rk 7 (upd rk_ 5 r_127)), (aI g rb 36 rb_), (oX11 m0 tw ta (nI n) pl (nI k2_130) fb2_131 fw2_132 (cs + 1) fd rfm rt_ to_ rw_ wa ct rk rb cn br sm as_ go sh_ ir oa ob th ig sp_ ki tg of_ kp sf rs), (aI g fd 500 fb)] H := hP
                              have hD : va_D A [(aI g to_ 25 tl), (aI g rk 7 (upd rk_ 5 r_127)), (aI g rb 36 rb_), (oX11 m0 tw ta (nI n) pl (nI k2_130) fb2_131 fw2_132 (cs + 1) fd rfm rt_ to_ rw_ wa ct rk rb cn br sm as_ go sh_ ir oa ob th ig sp_ ki tg of_ kp sf rs), (aI g fd 500 fb)] := hD
                              refine lv_aload_n hx hb dX11_rules_300 rfl (lv_at hl 1 rfl) ?_
                              refine he_cv (wc := [(oX11 m0 tw ta (nI n) pl (nI k2_130) fb2_131 fw2_132 (cs + 1) fd rfm rt_ to_ rw_ wa ct rk rb cn br sm as_ go sh_ ir oa ob th ig sp_ ki tg of_ kp sf rs), (aI g fd 500 fb)]) (wr := [(aI g to_ 25 tl), (aI g rk 7 (upd rk_ 5 r_127)), (aI g rb 36 rb_)]) (va_runV (As := []) (rest := []) ⟨hx, hb, hml, hown, hts⟩ (h_X11_closes l g m0 fd rfm rt_ to_ rw_ wa rk rb cn br sm as_ go sh_ ki tg of_ kp rs ta pl (cs + 1) ct ir oa ob th ig sp_ sf tw n k2_130 fb2_131 fw2_132 fb (by first | assumption | decide | omega) (by first | assumption | decide | omega) H.size) (cwV 0 hts gX11_rules_X11_closes rfl rfl rfl (by decide +kernel) ⟨Nat.le_of_ble_eq_true rfl, Nat.le_of_ble_eq_true rfl⟩) (he_preV (wc := [(oX11 m0 tw ta (nI n) pl (nI k2_130) fb2_131 fw2_132 (cs + 1) fd rfm rt_ to_ rw_ wa ct rk rb cn br sm as_ go sh_ ir oa ob th ig sp_ ki tg of_ kp sf rs), (aI g fd 500 fb)]) hK hP hD hS hA hE [3, 4] rfl rfl 3 rfl rfl) rfl rfl hl.1 rfl (lv_room (Nat.le_of_ble_eq_true rfl)) dX11_rules_301 ⟨(Nat.le_of_ble_eq_true rfl), (Nat.le_of_ble_eq_true rfl)⟩) hP hD hS hA [3, 4] [0, 1, 2] rfl rfl rfl (by decide) (fun u_137 H locs h_138 hP hD hS => ?_)
                              obtain ⟨k2_139, fb2_140, fw2_141⟩ := u_137
                              try dsimp only at h_138
                              obtain ⟨hf_142, hf_143, hf_144⟩ := h_138
                              have hP : va_P g.1 vwCl [(aI g to_ 25 tl), (aI g rk 7 (upd rk_ 5 r_127)), (aI g rb 36 rb_), (oX11 m0 tw ta (nI n) pl (nI k2_139) fb2_140 fw2_141 (cs + 1) fd rfm rt_ to_ rw_ wa ct rk rb cn br sm as_ go sh_ ir oa ob th ig sp_ ki tg of_ kp sf rs), (aI g fd 500 fb)] H := hP
                              have hD : va_D A [(aI g to_ 25 tl), (aI g rk 7 (upd rk_ 5 r_127)), (aI g rb 36 rb_), (oX11 m0 tw ta (nI n) pl (nI k2_139) fb2_140 fw2_141 (cs + 1) fd rfm rt_ to_ rw_ wa ct rk rb cn br sm as_ go sh_ ir oa ob th ig sp_ ki tg of_ kp sf rs), (aI g fd 500 fb)] := hD
                              have hP := hP.sub (ws' := [(oX11 m0 tw ta (nI n) pl (nI k2_139) fb2_140 fw2_141 (cs + 1) fd rfm rt_ to_ rw_ wa ct rk rb cn br sm as_ go sh_ ir oa ob th ig sp_ ki tg of_ kp sf rs), (aI g fd 500 fb), (aI g to_ 25 tl), (aI g rk 7 (upd rk_ 5 r_127)), (aI g rb 36 rb_)]) [3, 4, 0, 1, 2] rfl
                              have hD := hD.sub (ws' := [(oX11 m0 tw ta (nI n) pl (nI k2_139) fb2_140 fw2_141 (cs + 1) fd rfm rt_ to_ rw_ wa ct rk rb cn br sm as_ go sh_ ir oa ob th ig sp_ ki tg of_ kp sf rs), (aI g fd 500 fb), (aI g to_ 25 tl), (aI g rk 7 (upd rk_ 5 r_127)), (aI g rb 36 rb_)]) [3, 4, 0, 1, 2] (by decide) rfl
                              exact he_rv hQ hx hb hr hlk hP hD hS dX11_rules_304 (Nat.le_of_ble_eq_true rfl) (Nat.le_of_ble_eq_true rfl) ((k2_139, fb2_140, fw2_141, cs + 1, upd rk_ 5 r_127, rb_)) (rfl) (by (try dsimp only); exact ⟨by (try dsimp only); omega, by (try dsimp only); omega, (hf_144.imp_right (fun h9 => ⟨h9.1, by have := h9.2.2; omega⟩)), fun h9 => ⟨cOk_upd hc (fun e9 => absurd e9 (by (try dsimp only); decide)) (fun e9 => absurd e9 (by (try dsimp only); decide)) (fun _ => (num_to (lo := 1) (hi := 36) rfl rfl (by (try dsimp only); decide) (by (try dsimp only); decide) hf_135 (fun h7 => h7 (hf_144.resolve_left (fun h8 => h8 h9)).2.1))), hbo⟩⟩)
                          · exact absurd c_125 (by decide)
                        · exact absurd (by decide) c_124
                    · exact absurd c_122 (by decide)
                  · exact absurd (by decide) c_115
                · refine lv_aload_n hx hb dX11_rules_171 rfl (lv_at hl 1 rfl) ?_
                  refine lv_iconst (v := 3) hx hb dX11_rules_172 (by decide) ?_
                  refine lv_aload_n hx hb dX11_rules_173 rfl (lv_at hl 1 rfl) ?_
                  refine va_get (v := .int (nI k2_44)) (T := TX11) (N := 35) hx hb hts inX11 hown hK hP 3 rfl rfl 4 (by decide) f94 (fun _ h9 => h9) rfl dX11_rules_174 ?_
                  refine he_cv (wc := [(oX11 m0 tw ta (nI n) pl (nI k2_44) 0 fw cs fd rfm rt_ to_ rw_ wa ct rk rb cn br sm as_ go sh_ ir oa ob th ig sp_ ki tg of_ kp sf rs), (aI g fd 500 fb)]) (wr := [(aI g to_ 25 tl), (aI g rk 7 rk_), (aI g rb 36 rb_)]) (va_runV (As := [.int 3, .int (nI k2_44)]) (rest := []) ⟨hx, hb, hml, hown, hts⟩ (h_X11_wrong l g m0 fd rfm rt_ to_ rw_ wa rk rb cn br sm as_ go sh_ ki tg of_ kp rs ta pl cs ct ir oa ob th ig sp_ sf tw n k2_44 0 fw fb 3 (nI k2_44) H.size) (cwV 2 hts gX11_rules_X11_wrong rfl rfl rfl (by decide +kernel) ⟨Nat.le_of_ble_eq_true rfl, Nat.le_of_ble_eq_true rfl⟩) (he_preV (wc := [(oX11 m0 tw ta (nI n) pl (nI k2_44) 0 fw cs fd rfm rt_ to_ rw_ wa ct rk rb cn br sm as_ go sh_ ir oa ob th ig sp_ ki tg of_ kp sf rs), (aI g fd 500 fb)]) hK hP hD hS hA hE [3, 4] rfl rfl 3 rfl rfl) rfl rfl hl.1 rfl (lv_room (Nat.le_of_ble_eq_true rfl)) dX11_rules_177 ⟨(Nat.le_of_ble_eq_true rfl), (Nat.le_of_ble_eq_true rfl)⟩) hP hD hS hA [3, 4] [0, 1, 2] rfl rfl rfl (by decide) (fun u_146 H locs h_147 hP hD hS => ?_)
                  have hP : va_P g.1 vwCl [(aI g to_ 25 tl), (aI g rk 7 rk_), (aI g rb 36 rb_), (oX11 m0 tw ta (nI n) pl (nI k2_44) (wrF 0 3) (wrA 0 fw (nI k2_44)) cs fd rfm rt_ to_ rw_ wa ct rk rb cn br sm as_ go sh_ ir oa ob th ig sp_ ki tg of_ kp sf rs), (aI g fd 500 fb)] H := hP
                  have hD : va_D A [(aI g to_ 25 tl), (aI g rk 7 rk_), (aI g rb 36 rb_), (oX11 m0 tw ta (nI n) pl (nI k2_44) (wrF 0 3) (wrA 0 fw (nI k2_44)) cs fd rfm rt_ to_ rw_ wa ct rk rb cn br sm as_ go sh_ ir oa ob th ig sp_ ki tg of_ kp sf rs), (aI g fd 500 fb)] := hD
                  refine lv_aload_n hx hb dX11_rules_180 rfl (lv_at hl 1 rfl) ?_
                  refine va_get (v := .int (wrF 0 3)) (T := TX11) (N := 35) hx hb hts inX11 hown hK hP 3 rfl rfl 5 (by decide) f101 (fun _ h9 => h9) rfl dX11_rules_181 ?_
                  refine lv_if_eq (tgt := 188) hx hb dX11_rules_184 (by decide) (fun c_148 => ?_) (fun c_148 => ?_)
                  · exact absurd c_148 (by decide)
                  · have hP := hP.sub (ws' := [(oX11 m0 tw ta (nI n) pl (nI k2_44) (wrF 0 3) (wrA 0 fw (nI k2_44)) cs fd rfm rt_ to_ rw_ wa ct rk rb cn br sm as_ go sh_ ir oa ob th ig sp_ ki tg of_ kp sf rs), (aI g fd 500 fb), (aI g to_ 25 tl), (aI g rk 7 rk_), (aI g rb 36 rb_)]) [3, 4, 0, 1, 2] rfl
                    have hD := hD.sub (ws' := [(oX11 m0 tw ta (nI n) pl (nI k2_44) (wrF 0 3) (wrA 0 fw (nI k2_44)) cs fd rfm rt_ to_ rw_ wa ct rk rb cn br sm as_ go sh_ ir oa ob th ig sp_ ki tg of_ kp sf rs), (aI g fd 500 fb), (aI g to_ 25 tl), (aI g rk 7 rk_), (aI g rb 36 rb_)]) [3, 4, 0, 1, 2] (by decide) rfl
                    exact he_rv hQ hx hb hr hlk hP hD hS dX11_rules_187 (Nat.le_of_ble_eq_true rfl) (Nat.le_of_ble_eq_true rfl) ((k2_44, wrF 0 3, wrA 0 fw (nI k2_44), cs, rk_, rb_)) (rfl) (by (try dsimp only); exact ⟨by (try dsimp only); omega, by (try dsimp only); omega, Or.inl (by (try dsimp only); decide), fun h9 => absurd h9 (by (try dsimp only); decide)⟩)
              · exact absurd c_113 (by decide)
          · refine lv_iconst (v := 4) hx hb dX11_rules_98 (by decide) ?_
            refine lv_goto (tgt := 144) hx hb dX11_rules_99 (by decide) ?_
            refine lv_istore_n (lv' := [(1, .int 4), (0, .ref m0)]) hx hb dX11_rules_144 rfl hl (by decide) rfl (fun ls hl => ?_)
            refine lv_iload_n hx hb dX11_rules_145 rfl (lv_at hl 0 rfl) ?_
            refine lv_iconst (v := (-1)) hx hb dX11_rules_146 (by decide) ?_
            refine lv_icmp_ne (tgt := 162) hx hb dX11_rules_147 (by decide) (fun c_149 => ?_) (fun c_149 => ?_)
            · refine lv_aload_n hx hb dX11_rules_162 rfl (lv_at hl 1 rfl) ?_
              refine va_get (v := .int cs) (T := TX11) (N := 35) hx hb hts inX11 hown hK hP 3 rfl rfl 7 (by decide) f131 (fun _ h9 => h9) rfl dX11_rules_163 ?_
              refine lv_bipush (v := 20) hx hb dX11_rules_166 (by decide) ?_
              refine lv_icmp_ne (tgt := 180) hx hb dX11_rules_168 (by decide) (fun c_150 => ?_) (fun c_150 => ?_)
              · refine lv_aload_n hx hb dX11_rules_180 rfl (lv_at hl 1 rfl) ?_
                refine va_get (v := .int 0) (T := TX11) (N := 35) hx hb hts inX11 hown hK hP 3 rfl rfl 5 (by decide) f101 (fun _ h9 => h9) rfl dX11_rules_181 ?_
                refine lv_if_eq (tgt := 188) hx hb dX11_rules_184 (by decide) (fun c_151 => ?_) (fun c_151 => ?_)
                · refine lv_aload_n hx hb dX11_rules_188 rfl (lv_at hl 1 rfl) ?_
                  refine he_cv (wc := [(oX11 m0 tw ta (nI n) pl (nI k2_36) 0 fw cs fd rfm rt_ to_ rw_ wa ct rk rb cn br sm as_ go sh_ ir oa ob th ig sp_ ki tg of_ kp sf rs), (aI g fd 500 fb)]) (wr := [(aI g to_ 25 tl), (aI g rk 7 rk_), (aI g rb 36 rb_)]) (va_runV (As := []) (rest := []) ⟨hx, hb, hml, hown, hts⟩ (h_X11_skipWord l g m0 fd rfm rt_ to_ rw_ wa rk rb cn br sm as_ go sh_ ki tg of_ kp rs ta pl cs ct ir oa ob th ig sp_ sf tw n k2_36 0 fw fb (by first | assumption | decide | omega) (by first | assumption | decide | omega) H.size) (cwV 0 hts gX11_rules_X11_skipWord rfl rfl rfl (by decide +kernel) ⟨Nat.le_of_ble_eq_true rfl, Nat.le_of_ble_eq_true rfl⟩) (he_preV (wc := [(oX11 m0 tw ta (nI n) pl (nI k2_36) 0 fw cs fd rfm rt_ to_ rw_ wa ct rk rb cn br sm as_ go sh_ ir oa ob th ig sp_ ki tg of_ kp sf rs), (aI g fd 500 fb)]) hK hP hD hS hA hE [3, 4] rfl rfl 3 rfl rfl) rfl rfl hl.1 rfl (lv_room (Nat.le_of_ble_eq_true rfl)) dX11_rules_189 ⟨(Nat.le_of_ble_eq_true rfl), (Nat.le_of_ble_eq_true rfl)⟩) hP hD hS hA [3, 4] [0, 1, 2] rfl rfl rfl (by decide) (fun u_153 H locs h_154 hP hD hS => ?_)
                  obtain ⟨k2_155, rfl⟩ : ∃ z, z = u_153 := ⟨_, rfl⟩
                  try dsimp only at h_154
                  obtain ⟨hf_156, hf_157⟩ := h_154
                  have hP : va_P g.1 vwCl [(aI g to_ 25 tl), (aI g rk 7 rk_), (aI g rb 36 rb_), (oX11 m0 tw ta (nI n) pl (nI k2_155) 0 fw cs fd rfm rt_ to_ rw_ wa ct rk rb cn br sm as_ go sh_ ir oa ob th ig sp_ ki tg of_ kp sf rs), (aI g fd 500 fb)] H := hP
                  have hD : va_D A [(aI g to_ 25 tl), (aI g rk 7 rk_), (aI g rb 36 rb_), (oX11 m0 tw ta (nI n) pl (nI k2_155) 0 fw cs fd rfm rt_ to_ rw_ wa ct rk rb cn br sm as_ go sh_ ir oa ob th ig sp_ ki tg of_ kp sf rs), (aI g fd 500 fb)] := hD
                  refine lv_aload_n hx hb dX11_rules_192 rfl (lv_at hl 1 rfl) ?_
                  refine lv_dup hx hb dX11_rules_193 rfl ?_
                  refine va_get (v := .int cs) (T := TX11) (N := 35) hx hb hts inX11 hown hK hP 3 rfl rfl 7 (by decide) f131 (fun _ h9 => h9) rfl dX11_rules_194 ?_
                  refine lv_iconst (v := 1) hx hb dX11_rules_197 (by decide) ?_
                  refine lv_iadd hx hb dX11_rules_198 ?_
                  refine va_put (v := .int (cs + 1)) (ty := .int) (T := TX11) (N := 35) hx hb hts inX11 tyX11 tyX11_ok nmX11 hown hK hP hD hS 3 rfl rfl 7 (by decide) f131 (fun _ h9 => h9) rfl (by decide +kernel) rfl rfl (Nat.le_of_ble_eq_true rfl) dX11_rules_199 (fun H locs hP hD hS => ?_)
                  have hP : va_P g.1 vwCl [(aI g to_ 25 tl), (aI g rk 7 rk_), (aI g rb 36 rb_), (oX11 m0 tw ta (nI n) pl (nI k2_155) 0 fw (cs + 1) fd rfm rt_ to_ rw_ wa ct rk rb cn br sm as_ go sh_ ir oa ob th ig sp_ ki tg of_ kp sf rs), (aI g fd 500 fb)] H := hP
                  have hD : va_D A [(aI g to_ 25 tl), (aI g rk 7 rk_), (aI g rb 36 rb_), (oX11 m0 tw ta (nI n) pl (nI k2_155) 0 fw (cs + 1) fd rfm rt_ to_ rw_ wa ct rk rb cn br sm as_ go sh_ ir oa ob th ig sp_ ki tg of_ kp sf rs), (aI g fd 500 fb)] := hD
                  refine lv_iload_n hx hb dX11_rules_202 rfl (lv_at hl 0 rfl) ?_
                  refine lv_bipush (v := 6) hx hb dX11_rules_203 (by decide) ?_
                  refine lv_icmp_ne (tgt := 247) hx hb dX11_rules_205 (by decide) (fun c_158 => ?_) (fun c_158 => ?_)
                  · refine lv_aload_n hx hb dX11_rules_247 rfl (lv_at hl 1 rfl) ?_
                    refine va_get (v := .ref rk) (T := TX11) (N := 35) hx hb hts inX11 hown hK hP 3 rfl rfl 15 (by decide) f34 (fun _ h9 => h9) rfl dX11_rules_248 ?_
                    refine lv_iload_n hx hb dX11_rules_251 rfl (lv_at hl 0 rfl) ?_
                    refine lv_aload_n hx hb dX11_rules_252 rfl (lv_at hl 1 rfl) ?_
                    refine lv_iload_n hx hb dX11_rules_253 rfl (lv_at hl 0 rfl) ?_
                    refine lv_iconst (v := 5) hx hb dX11_rules_254 (by decide) ?_
                    refine lv_icmp_ne (tgt := 262) hx hb dX11_rules_255 (by decide) (fun c_159 => ?_) (fun c_159 => ?_)
                    · refine lv_iconst (v := 0) hx hb dX11_rules_262 (by decide) ?_
                      refine lv_iload_n hx hb dX11_rules_263 rfl (lv_at hl 0 rfl) ?_
                      refine lv_iconst (v := 2) hx hb dX11_rules_264 (by decide) ?_
                      refine lv_icmp_ge (tgt := 274) hx hb dX11_rules_265 (by decide) (fun c_160 => ?_) (fun c_160 => ?_)
                      · refine lv_iload_n hx hb dX11_rules_274 rfl (lv_at hl 0 rfl) ?_
                        refine lv_iconst (v := 2) hx hb dX11_rules_275 (by decide) ?_
                        refine lv_icmp_ne (tgt := 284) hx hb dX11_rules_276 (by decide) (fun c_161 => ?_) (fun c_161 => ?_)
                        · refine lv_iload_n hx hb dX11_rules_284 rfl (lv_at hl 0 rfl) ?_
                          refine lv_iconst (v := 5) hx hb dX11_rules_285 (by decide) ?_
                          refine lv_icmp_ne (tgt := 294) hx hb dX11_rules_286 (by decide) (fun c_162 => ?_) (fun c_162 => ?_)
                          · refine lv_bipush (v := 99) hx hb dX11_rules_294 (by decide) ?_
                            refine he_ci (wc := [(oX11 m0 tw ta (nI n) pl (nI k2_155) 0 fw (cs + 1) fd rfm rt_ to_ rw_ wa ct rk rb cn br sm as_ go sh_ ir oa ob th ig sp_ ki tg of_ kp sf rs), (aI g fd 500 fb)]) (wr := [(aI g to_ 25 tl), (aI g rk 7 rk_), (aI g rb 36 rb_)]) (va_runV (As := [.int 0, .int 99]) (rest := [.int 4, .ref rk]) ⟨hx, hb, hml, hown, hts⟩ (h_X11_number l g m0 fd rfm rt_ to_ rw_ wa rk rb cn br sm as_ go sh_ ki tg of_ kp rs ta pl (cs + 1) ct ir oa ob th ig sp_ sf tw n k2_155 0 fw fb 0 99 (by first | assumption | decide | omega) (by first | assumption | decide | omega) H.size) (cwV 2 hts gX11_rules_X11_number rfl rfl rfl (by decide +kernel) ⟨Nat.le_of_ble_eq_true rfl, Nat.le_of_ble_eq_true rfl⟩) (he_preV (wc := [(oX11 m0 tw ta (nI n) pl (nI k2_155) 0 fw (cs + 1) fd rfm rt_ to_ rw_ wa ct rk rb cn br sm as_ go sh_ ir oa ob th ig sp_ ki tg of_ kp sf rs), (aI g fd 500 fb)]) hK hP hD hS hA hE [3, 4] rfl rfl 3 rfl rfl) rfl rfl hl.1 rfl (lv_room (Nat.le_of_ble_eq_true rfl)) dX11_rules_296 ⟨(Nat.le_of_ble_eq_true rfl), (Nat.le_of_ble_eq_true rfl)⟩) hP hD hS hA [3, 4] [0, 1, 2] rfl rfl rfl (by decide) (fun r_163 u_164 H locs h_165 hP hD hS => ?_)
                            obtain ⟨k2_166, fb2_167, fw2_168⟩ := u_164
                            try dsimp only at h_165
                            obtain ⟨hf_169, hf_170, hf_171⟩ := h_165
                            have hP : va_P g.1 vwCl [(aI g to_ 25 tl), (aI g rk 7 rk_), (aI g rb 36 rb_), (oX11 m0 tw ta (nI n) pl (nI k2_166) fb2_167 fw2_168 (cs + 1) fd rfm rt_ to_ rw_ wa ct rk rb cn br sm as_ go sh_ ir oa ob th ig sp_ ki tg of_ kp sf rs), (aI g fd 500 fb)] H := hP
                            have hD : va_D A [(aI g to_ 25 tl), (aI g rk 7 rk_), (aI g rb 36 rb_), (oX11 m0 tw ta (nI n) pl (nI k2_166) fb2_167 fw2_168 (cs + 1) fd rfm rt_ to_ rw_ wa ct rk rb cn br sm as_ go sh_ ir oa ob th ig sp_ ki tg of_ kp sf rs), (aI g fd 500 fb)] := hD
                            refine he_iast hx hb hK hP hD hS 1 rfl (4) (by decide) (by decide) (by first | decide | assumption) dX11_rules_299 (fun H locs hP hD hS => ?_)
                            have hP : va_P g.1 vwCl [(aI g to_ 25 tl), (aI g rk 7 (upd rk_ 4 r_163)), (aI g rb 36 rb_), (oX11 m0 tw ta (nI n) pl (nI k2_166) fb2_167 fw2_168 (cs + 1) fd rfm rt_ to_ rw_ wa ct rk rb cn br sm as_ go sh_ ir oa ob th ig sp_ ki tg of_ kp sf rs), (aI g fd 500 fb)] H := hP
                            have hD : va_D A [(aI g to_ 25 tl), (aI g rk 7 (upd rk_ 4 r_163)), (aI g rb 36 rb_), (oX11 m0 tw ta (nI n) pl (nI k2_166) fb2_167 fw2_168 (cs + 1) fd rfm rt_ to_ rw_ wa ct rk rb cn br sm as_ go sh_ ir oa ob th ig sp_ ki tg of_ kp sf rs), (aI g fd 500 fb)] := hD
                            refine lv_aload_n hx hb dX11_rules_300 rfl (lv_at hl 1 rfl) ?_
                            refine he_cv (wc := [(oX11 m0 tw ta (nI n) pl (nI k2_166) fb2_167 fw2_168 (cs + 1) fd rfm rt_ to_ rw_ wa ct rk rb cn br sm as_ go sh_ ir oa ob th ig sp_ ki tg of_ kp sf rs), (aI g fd 500 fb)]) (wr := [(aI g to_ 25 tl), (aI g rk 7 (upd rk_ 4 r_163)), (aI g rb 36 rb_)]) (va_runV (As := []) (rest := []) ⟨hx, hb, hml, hown, hts⟩ (h_X11_closes l g m0 fd rfm rt_ to_ rw_ wa rk rb cn br sm as_ go sh_ ki tg of_ kp rs ta pl (cs + 1) ct ir oa ob th ig sp_ sf tw n k2_166 fb2_167 fw2_168 fb (by first | assumption | decide | omega) (by first | assumption | decide | omega) H.size) (cwV 0 hts gX11_rules_X11_closes rfl rfl rfl (by decide +kernel) ⟨Nat.le_of_ble_eq_true rfl, Nat.le_of_ble_eq_true rfl⟩) (he_preV (wc := [(oX11 m0 tw ta (nI n) pl (nI k2_166) fb2_167 fw2_168 (cs + 1) fd rfm rt_ to_ rw_ wa ct rk rb cn br sm as_ go sh_ ir oa ob th ig sp_ ki tg of_ kp sf rs), (aI g fd 500 fb)]) hK hP hD hS hA hE [3, 4] rfl rfl 3 rfl rfl) rfl rfl hl.1 rfl (lv_room (Nat.le_of_ble_eq_true rfl)) dX11_rules_301 ⟨(Nat.le_of_ble_eq_true rfl), (Nat.le_of_ble_eq_true rfl)⟩) hP hD hS hA [3, 4] [0, 1, 2] rfl rfl rfl (by decide) (fun u_173 H locs h_174 hP hD hS => ?_)
                            obtain ⟨k2_175, fb2_176, fw2_177⟩ := u_173
                            try dsimp only at h_174
                            obtain ⟨hf_178, hf_179, hf_180⟩ := h_174
                            have hP : va_P g.1 vwCl [(aI g to_ 25 tl), (aI g rk 7 (upd rk_ 4 r_163)), (aI g rb 36 rb_), (oX11 m0 tw ta (nI n) pl (nI k2_175) fb2_176 fw2_177 (cs + 1) fd rfm rt_ to_ rw_ wa ct rk rb cn br sm as_ go sh_ ir oa ob th ig sp_ ki tg of_ kp sf rs), (aI g fd 500 fb)] H := hP
                            have hD : va_D A [(aI g to_ 25 tl), (aI g rk 7 (upd rk_ 4 r_163)), (aI g rb 36 rb_), (oX11 m0 tw ta (nI n) pl (nI k2_175) fb2_176 fw2_177 (cs + 1) fd rfm rt_ to_ rw_ wa ct rk rb cn br sm as_ go sh_ ir oa ob th ig sp_ ki tg of_ kp sf rs), (aI g fd 500 fb)] := hD
                            have hP := hP.sub (ws' := [(oX11 m0 tw ta (nI n) pl (nI k2_175) fb2_176 fw2_177 (cs + 1) fd rfm rt_ to_ rw_ wa ct rk rb cn br sm as_ go sh_ ir oa ob th ig sp_ ki tg of_ kp sf rs), (aI g fd 500 fb), (aI g to_ 25 tl), (aI g rk 7 (upd rk_ 4 r_163)), (aI g rb 36 rb_)]) [3, 4, 0, 1, 2] rfl
                            have hD := hD.sub (ws' := [(oX11 m0 tw ta (nI n) pl (nI k2_175) fb2_176 fw2_177 (cs + 1) fd rfm rt_ to_ rw_ wa ct rk rb cn br sm as_ go sh_ ir oa ob th ig sp_ ki tg of_ kp sf rs), (aI g fd 500 fb), (aI g to_ 25 tl), (aI g rk 7 (upd rk_ 4 r_163)), (aI g rb 36 rb_)]) [3, 4, 0, 1, 2] (by decide) rfl
                            exact he_rv hQ hx hb hr hlk hP hD hS dX11_rules_304 (Nat.le_of_ble_eq_true rfl) (Nat.le_of_ble_eq_true rfl) ((k2_175, fb2_176, fw2_177, cs + 1, upd rk_ 4 r_163, rb_)) (rfl) (by (try dsimp only); exact ⟨by (try dsimp only); omega, by (try dsimp only); omega, (hf_180.imp_right (fun h9 => ⟨h9.1, by have := h9.2.2; omega⟩)), fun h9 => ⟨cOk_upd hc (fun e9 => absurd e9 (by (try dsimp only); decide)) (fun e9 => absurd e9 (by (try dsimp only); decide)) (fun e9 => absurd e9 (by (try dsimp only); decide)), hbo⟩⟩)
                          · exact absurd c_162 (by decide)
                        · exact absurd c_161 (by decide)
                      · exact absurd (by decide) c_160
                    · exact absurd c_159 (by decide)
                  · exact absurd c_158 (by decide)
                · exact absurd (by decide) c_151
              · refine lv_aload_n hx hb dX11_rules_171 rfl (lv_at hl 1 rfl) ?_
                refine lv_iconst (v := 3) hx hb dX11_rules_172 (by decide) ?_
                refine lv_aload_n hx hb dX11_rules_173 rfl (lv_at hl 1 rfl) ?_
                refine va_get (v := .int (nI k2_36)) (T := TX11) (N := 35) hx hb hts inX11 hown hK hP 3 rfl rfl 4 (by decide) f94 (fun _ h9 => h9) rfl dX11_rules_174 ?_
                refine he_cv (wc := [(oX11 m0 tw ta (nI n) pl (nI k2_36) 0 fw cs fd rfm rt_ to_ rw_ wa ct rk rb cn br sm as_ go sh_ ir oa ob th ig sp_ ki tg of_ kp sf rs), (aI g fd 500 fb)]) (wr := [(aI g to_ 25 tl), (aI g rk 7 rk_), (aI g rb 36 rb_)]) (va_runV (As := [.int 3, .int (nI k2_36)]) (rest := []) ⟨hx, hb, hml, hown, hts⟩ (h_X11_wrong l g m0 fd rfm rt_ to_ rw_ wa rk rb cn br sm as_ go sh_ ki tg of_ kp rs ta pl cs ct ir oa ob th ig sp_ sf tw n k2_36 0 fw fb 3 (nI k2_36) H.size) (cwV 2 hts gX11_rules_X11_wrong rfl rfl rfl (by decide +kernel) ⟨Nat.le_of_ble_eq_true rfl, Nat.le_of_ble_eq_true rfl⟩) (he_preV (wc := [(oX11 m0 tw ta (nI n) pl (nI k2_36) 0 fw cs fd rfm rt_ to_ rw_ wa ct rk rb cn br sm as_ go sh_ ir oa ob th ig sp_ ki tg of_ kp sf rs), (aI g fd 500 fb)]) hK hP hD hS hA hE [3, 4] rfl rfl 3 rfl rfl) rfl rfl hl.1 rfl (lv_room (Nat.le_of_ble_eq_true rfl)) dX11_rules_177 ⟨(Nat.le_of_ble_eq_true rfl), (Nat.le_of_ble_eq_true rfl)⟩) hP hD hS hA [3, 4] [0, 1, 2] rfl rfl rfl (by decide) (fun u_182 H locs h_183 hP hD hS => ?_)
                have hP : va_P g.1 vwCl [(aI g to_ 25 tl), (aI g rk 7 rk_), (aI g rb 36 rb_), (oX11 m0 tw ta (nI n) pl (nI k2_36) (wrF 0 3) (wrA 0 fw (nI k2_36)) cs fd rfm rt_ to_ rw_ wa ct rk rb cn br sm as_ go sh_ ir oa ob th ig sp_ ki tg of_ kp sf rs), (aI g fd 500 fb)] H := hP
                have hD : va_D A [(aI g to_ 25 tl), (aI g rk 7 rk_), (aI g rb 36 rb_), (oX11 m0 tw ta (nI n) pl (nI k2_36) (wrF 0 3) (wrA 0 fw (nI k2_36)) cs fd rfm rt_ to_ rw_ wa ct rk rb cn br sm as_ go sh_ ir oa ob th ig sp_ ki tg of_ kp sf rs), (aI g fd 500 fb)] := hD
                refine lv_aload_n hx hb dX11_rules_180 rfl (lv_at hl 1 rfl) ?_
                refine va_get (v := .int (wrF 0 3)) (T := TX11) (N := 35) hx hb hts inX11 hown hK hP 3 rfl rfl 5 (by decide) f101 (fun _ h9 => h9) rfl dX11_rules_181 ?_
                refine lv_if_eq (tgt := 188) hx hb dX11_rules_184 (by decide) (fun c_184 => ?_) (fun c_184 => ?_)
                · exact absurd c_184 (by decide)
                · have hP := hP.sub (ws' := [(oX11 m0 tw ta (nI n) pl (nI k2_36) (wrF 0 3) (wrA 0 fw (nI k2_36)) cs fd rfm rt_ to_ rw_ wa ct rk rb cn br sm as_ go sh_ ir oa ob th ig sp_ ki tg of_ kp sf rs), (aI g fd 500 fb), (aI g to_ 25 tl), (aI g rk 7 rk_), (aI g rb 36 rb_)]) [3, 4, 0, 1, 2] rfl
                  have hD := hD.sub (ws' := [(oX11 m0 tw ta (nI n) pl (nI k2_36) (wrF 0 3) (wrA 0 fw (nI k2_36)) cs fd rfm rt_ to_ rw_ wa ct rk rb cn br sm as_ go sh_ ir oa ob th ig sp_ ki tg of_ kp sf rs), (aI g fd 500 fb), (aI g to_ 25 tl), (aI g rk 7 rk_), (aI g rb 36 rb_)]) [3, 4, 0, 1, 2] (by decide) rfl
                  exact he_rv hQ hx hb hr hlk hP hD hS dX11_rules_187 (Nat.le_of_ble_eq_true rfl) (Nat.le_of_ble_eq_true rfl) ((k2_36, wrF 0 3, wrA 0 fw (nI k2_36), cs, rk_, rb_)) (rfl) (by (try dsimp only); exact ⟨by (try dsimp only); omega, by (try dsimp only); omega, Or.inl (by (try dsimp only); decide), fun h9 => absurd h9 (by (try dsimp only); decide)⟩)
            · exact absurd c_149 (by decide)
        · refine lv_iconst (v := 3) hx hb dX11_rules_77 (by decide) ?_
          refine lv_goto (tgt := 144) hx hb dX11_rules_78 (by decide) ?_
          refine lv_istore_n (lv' := [(1, .int 3), (0, .ref m0)]) hx hb dX11_rules_144 rfl hl (by decide) rfl (fun ls hl => ?_)
          refine lv_iload_n hx hb dX11_rules_145 rfl (lv_at hl 0 rfl) ?_
          refine lv_iconst (v := (-1)) hx hb dX11_rules_146 (by decide) ?_
          refine lv_icmp_ne (tgt := 162) hx hb dX11_rules_147 (by decide) (fun c_185 => ?_) (fun c_185 => ?_)
          · refine lv_aload_n hx hb dX11_rules_162 rfl (lv_at hl 1 rfl) ?_
            refine va_get (v := .int cs) (T := TX11) (N := 35) hx hb hts inX11 hown hK hP 3 rfl rfl 7 (by decide) f131 (fun _ h9 => h9) rfl dX11_rules_163 ?_
            refine lv_bipush (v := 20) hx hb dX11_rules_166 (by decide) ?_
            refine lv_icmp_ne (tgt := 180) hx hb dX11_rules_168 (by decide) (fun c_186 => ?_) (fun c_186 => ?_)
            · refine lv_aload_n hx hb dX11_rules_180 rfl (lv_at hl 1 rfl) ?_
              refine va_get (v := .int 0) (T := TX11) (N := 35) hx hb hts inX11 hown hK hP 3 rfl rfl 5 (by decide) f101 (fun _ h9 => h9) rfl dX11_rules_181 ?_
              refine lv_if_eq (tgt := 188) hx hb dX11_rules_184 (by decide) (fun c_187 => ?_) (fun c_187 => ?_)
              · refine lv_aload_n hx hb dX11_rules_188 rfl (lv_at hl 1 rfl) ?_
                refine he_cv (wc := [(oX11 m0 tw ta (nI n) pl (nI k2_28) 0 fw cs fd rfm rt_ to_ rw_ wa ct rk rb cn br sm as_ go sh_ ir oa ob th ig sp_ ki tg of_ kp sf rs), (aI g fd 500 fb)]) (wr := [(aI g to_ 25 tl), (aI g rk 7 rk_), (aI g rb 36 rb_)]) (va_runV (As := []) (rest := []) ⟨hx, hb, hml, hown, hts⟩ (h_X11_skipWord l g m0 fd rfm rt_ to_ rw_ wa rk rb cn br sm as_ go sh_ ki tg of_ kp rs ta pl cs ct ir oa ob th ig sp_ sf tw n k2_28 0 fw fb (by first | assumption | decide | omega) (by first | assumption | decide | omega) H.size) (cwV 0 hts gX11_rules_X11_skipWord rfl rfl rfl (by decide +kernel) ⟨Nat.le_of_ble_eq_true rfl, Nat.le_of_ble_eq_true rfl⟩) (he_preV (wc := [(oX11 m0 tw ta (nI n) pl (nI k2_28) 0 fw cs fd rfm rt_ to_ rw_ wa ct rk rb cn br sm as_ go sh_ ir oa ob th ig sp_ ki tg of_ kp sf rs), (aI g fd 500 fb)]) hK hP hD hS hA hE [3, 4] rfl rfl 3 rfl rfl) rfl rfl hl.1 rfl (lv_room (Nat.le_of_ble_eq_true rfl)) dX11_rules_189 ⟨(Nat.le_of_ble_eq_true rfl), (Nat.le_of_ble_eq_true rfl)⟩) hP hD hS hA [3, 4] [0, 1, 2] rfl rfl rfl (by decide) (fun u_189 H locs h_190 hP hD hS => ?_)
                obtain ⟨k2_191, rfl⟩ : ∃ z, z = u_189 := ⟨_, rfl⟩
                try dsimp only at h_190
                obtain ⟨hf_192, hf_193⟩ := h_190
                have hP : va_P g.1 vwCl [(aI g to_ 25 tl), (aI g rk 7 rk_), (aI g rb 36 rb_), (oX11 m0 tw ta (nI n) pl (nI k2_191) 0 fw cs fd rfm rt_ to_ rw_ wa ct rk rb cn br sm as_ go sh_ ir oa ob th ig sp_ ki tg of_ kp sf rs), (aI g fd 500 fb)] H := hP
                have hD : va_D A [(aI g to_ 25 tl), (aI g rk 7 rk_), (aI g rb 36 rb_), (oX11 m0 tw ta (nI n) pl (nI k2_191) 0 fw cs fd rfm rt_ to_ rw_ wa ct rk rb cn br sm as_ go sh_ ir oa ob th ig sp_ ki tg of_ kp sf rs), (aI g fd 500 fb)] := hD
                refine lv_aload_n hx hb dX11_rules_192 rfl (lv_at hl 1 rfl) ?_
                refine lv_dup hx hb dX11_rules_193 rfl ?_
                refine va_get (v := .int cs) (T := TX11) (N := 35) hx hb hts inX11 hown hK hP 3 rfl rfl 7 (by decide) f131 (fun _ h9 => h9) rfl dX11_rules_194 ?_
                refine lv_iconst (v := 1) hx hb dX11_rules_197 (by decide) ?_
                refine lv_iadd hx hb dX11_rules_198 ?_
                refine va_put (v := .int (cs + 1)) (ty := .int) (T := TX11) (N := 35) hx hb hts inX11 tyX11 tyX11_ok nmX11 hown hK hP hD hS 3 rfl rfl 7 (by decide) f131 (fun _ h9 => h9) rfl (by decide +kernel) rfl rfl (Nat.le_of_ble_eq_true rfl) dX11_rules_199 (fun H locs hP hD hS => ?_)
                have hP : va_P g.1 vwCl [(aI g to_ 25 tl), (aI g rk 7 rk_), (aI g rb 36 rb_), (oX11 m0 tw ta (nI n) pl (nI k2_191) 0 fw (cs + 1) fd rfm rt_ to_ rw_ wa ct rk rb cn br sm as_ go sh_ ir oa ob th ig sp_ ki tg of_ kp sf rs), (aI g fd 500 fb)] H := hP
                have hD : va_D A [(aI g to_ 25 tl), (aI g rk 7 rk_), (aI g rb 36 rb_), (oX11 m0 tw ta (nI n) pl (nI k2_191) 0 fw (cs + 1) fd rfm rt_ to_ rw_ wa ct rk rb cn br sm as_ go sh_ ir oa ob th ig sp_ ki tg of_ kp sf rs), (aI g fd 500 fb)] := hD
                refine lv_iload_n hx hb dX11_rules_202 rfl (lv_at hl 0 rfl) ?_
                refine lv_bipush (v := 6) hx hb dX11_rules_203 (by decide) ?_
                refine lv_icmp_ne (tgt := 247) hx hb dX11_rules_205 (by decide) (fun c_194 => ?_) (fun c_194 => ?_)
                · refine lv_aload_n hx hb dX11_rules_247 rfl (lv_at hl 1 rfl) ?_
                  refine va_get (v := .ref rk) (T := TX11) (N := 35) hx hb hts inX11 hown hK hP 3 rfl rfl 15 (by decide) f34 (fun _ h9 => h9) rfl dX11_rules_248 ?_
                  refine lv_iload_n hx hb dX11_rules_251 rfl (lv_at hl 0 rfl) ?_
                  refine lv_aload_n hx hb dX11_rules_252 rfl (lv_at hl 1 rfl) ?_
                  refine lv_iload_n hx hb dX11_rules_253 rfl (lv_at hl 0 rfl) ?_
                  refine lv_iconst (v := 5) hx hb dX11_rules_254 (by decide) ?_
                  refine lv_icmp_ne (tgt := 262) hx hb dX11_rules_255 (by decide) (fun c_195 => ?_) (fun c_195 => ?_)
                  · refine lv_iconst (v := 0) hx hb dX11_rules_262 (by decide) ?_
                    refine lv_iload_n hx hb dX11_rules_263 rfl (lv_at hl 0 rfl) ?_
                    refine lv_iconst (v := 2) hx hb dX11_rules_264 (by decide) ?_
                    refine lv_icmp_ge (tgt := 274) hx hb dX11_rules_265 (by decide) (fun c_196 => ?_) (fun c_196 => ?_)
                    · refine lv_iload_n hx hb dX11_rules_274 rfl (lv_at hl 0 rfl) ?_
                      refine lv_iconst (v := 2) hx hb dX11_rules_275 (by decide) ?_
                      refine lv_icmp_ne (tgt := 284) hx hb dX11_rules_276 (by decide) (fun c_197 => ?_) (fun c_197 => ?_)
                      · refine lv_iload_n hx hb dX11_rules_284 rfl (lv_at hl 0 rfl) ?_
                        refine lv_iconst (v := 5) hx hb dX11_rules_285 (by decide) ?_
                        refine lv_icmp_ne (tgt := 294) hx hb dX11_rules_286 (by decide) (fun c_198 => ?_) (fun c_198 => ?_)
                        · refine lv_bipush (v := 99) hx hb dX11_rules_294 (by decide) ?_
                          refine he_ci (wc := [(oX11 m0 tw ta (nI n) pl (nI k2_191) 0 fw (cs + 1) fd rfm rt_ to_ rw_ wa ct rk rb cn br sm as_ go sh_ ir oa ob th ig sp_ ki tg of_ kp sf rs), (aI g fd 500 fb)]) (wr := [(aI g to_ 25 tl), (aI g rk 7 rk_), (aI g rb 36 rb_)]) (va_runV (As := [.int 0, .int 99]) (rest := [.int 3, .ref rk]) ⟨hx, hb, hml, hown, hts⟩ (h_X11_number l g m0 fd rfm rt_ to_ rw_ wa rk rb cn br sm as_ go sh_ ki tg of_ kp rs ta pl (cs + 1) ct ir oa ob th ig sp_ sf tw n k2_191 0 fw fb 0 99 (by first | assumption | decide | omega) (by first | assumption | decide | omega) H.size) (cwV 2 hts gX11_rules_X11_number rfl rfl rfl (by decide +kernel) ⟨Nat.le_of_ble_eq_true rfl, Nat.le_of_ble_eq_true rfl⟩) (he_preV (wc := [(oX11 m0 tw ta (nI n) pl (nI k2_191) 0 fw (cs + 1) fd rfm rt_ to_ rw_ wa ct rk rb cn br sm as_ go sh_ ir oa ob th ig sp_ ki tg of_ kp sf rs), (aI g fd 500 fb)]) hK hP hD hS hA hE [3, 4] rfl rfl 3 rfl rfl) rfl rfl hl.1 rfl (lv_room (Nat.le_of_ble_eq_true rfl)) dX11_rules_296 ⟨(Nat.le_of_ble_eq_true rfl), (Nat.le_of_ble_eq_true rfl)⟩) hP hD hS hA [3, 4] [0, 1, 2] rfl rfl rfl (by decide) (fun r_199 u_200 H locs h_201 hP hD hS => ?_)
                          obtain ⟨k2_202, fb2_203, fw2_204⟩ := u_200
                          try dsimp only at h_201
                          obtain ⟨hf_205, hf_206, hf_207⟩ := h_201
                          have hP : va_P g.1 vwCl [(aI g to_ 25 tl), (aI g rk 7 rk_), (aI g rb 36 rb_), (oX11 m0 tw ta (nI n) pl (nI k2_202) fb2_203 fw2_204 (cs + 1) fd rfm rt_ to_ rw_ wa ct rk rb cn br sm as_ go sh_ ir oa ob th ig sp_ ki tg of_ kp sf rs), (aI g fd 500 fb)] H := hP
                          have hD : va_D A [(aI g to_ 25 tl), (aI g rk 7 rk_), (aI g rb 36 rb_), (oX11 m0 tw ta (nI n) pl (nI k2_202) fb2_203 fw2_204 (cs + 1) fd rfm rt_ to_ rw_ wa ct rk rb cn br sm as_ go sh_ ir oa ob th ig sp_ ki tg of_ kp sf rs), (aI g fd 500 fb)] := hD
                          refine he_iast hx hb hK hP hD hS 1 rfl (3) (by decide) (by decide) (by first | decide | assumption) dX11_rules_299 (fun H locs hP hD hS => ?_)
                          have hP : va_P g.1 vwCl [(aI g to_ 25 tl), (aI g rk 7 (upd rk_ 3 r_199)), (aI g rb 36 rb_), (oX11 m0 tw ta (nI n) pl (nI k2_202) fb2_203 fw2_204 (cs + 1) fd rfm rt_ to_ rw_ wa ct rk rb cn br sm as_ go sh_ ir oa ob th ig sp_ ki tg of_ kp sf rs), (aI g fd 500 fb)] H := hP
                          have hD : va_D A [(aI g to_ 25 tl), (aI g rk 7 (upd rk_ 3 r_199)), (aI g rb 36 rb_), (oX11 m0 tw ta (nI n) pl (nI k2_202) fb2_203 fw2_204 (cs + 1) fd rfm rt_ to_ rw_ wa ct rk rb cn br sm as_ go sh_ ir oa ob th ig sp_ ki tg of_ kp sf rs), (aI g fd 500 fb)] := hD
                          refine lv_aload_n hx hb dX11_rules_300 rfl (lv_at hl 1 rfl) ?_
                          refine he_cv (wc := [(oX11 m0 tw ta (nI n) pl (nI k2_202) fb2_203 fw2_204 (cs + 1) fd rfm rt_ to_ rw_ wa ct rk rb cn br sm as_ go sh_ ir oa ob th ig sp_ ki tg of_ kp sf rs), (aI g fd 500 fb)]) (wr := [(aI g to_ 25 tl), (aI g rk 7 (upd rk_ 3 r_199)), (aI g rb 36 rb_)]) (va_runV (As := []) (rest := []) ⟨hx, hb, hml, hown, hts⟩ (h_X11_closes l g m0 fd rfm rt_ to_ rw_ wa rk rb cn br sm as_ go sh_ ki tg of_ kp rs ta pl (cs + 1) ct ir oa ob th ig sp_ sf tw n k2_202 fb2_203 fw2_204 fb (by first | assumption | decide | omega) (by first | assumption | decide | omega) H.size) (cwV 0 hts gX11_rules_X11_closes rfl rfl rfl (by decide +kernel) ⟨Nat.le_of_ble_eq_true rfl, Nat.le_of_ble_eq_true rfl⟩) (he_preV (wc := [(oX11 m0 tw ta (nI n) pl (nI k2_202) fb2_203 fw2_204 (cs + 1) fd rfm rt_ to_ rw_ wa ct rk rb cn br sm as_ go sh_ ir oa ob th ig sp_ ki tg of_ kp sf rs), (aI g fd 500 fb)]) hK hP hD hS hA hE [3, 4] rfl rfl 3 rfl rfl) rfl rfl hl.1 rfl (lv_room (Nat.le_of_ble_eq_true rfl)) dX11_rules_301 ⟨(Nat.le_of_ble_eq_true rfl), (Nat.le_of_ble_eq_true rfl)⟩) hP hD hS hA [3, 4] [0, 1, 2] rfl rfl rfl (by decide) (fun u_209 H locs h_210 hP hD hS => ?_)
                          obtain ⟨k2_211, fb2_212, fw2_213⟩ := u_209
                          try dsimp only at h_210
                          obtain ⟨hf_214, hf_215, hf_216⟩ := h_210
                          have hP : va_P g.1 vwCl [(aI g to_ 25 tl), (aI g rk 7 (upd rk_ 3 r_199)), (aI g rb 36 rb_), (oX11 m0 tw ta (nI n) pl (nI k2_211) fb2_212 fw2_213 (cs + 1) fd rfm rt_ to_ rw_ wa ct rk rb cn br sm as_ go sh_ ir oa ob th ig sp_ ki tg of_ kp sf rs), (aI g fd 500 fb)] H := hP
                          have hD : va_D A [(aI g to_ 25 tl), (aI g rk 7 (upd rk_ 3 r_199)), (aI g rb 36 rb_), (oX11 m0 tw ta (nI n) pl (nI k2_211) fb2_212 fw2_213 (cs + 1) fd rfm rt_ to_ rw_ wa ct rk rb cn br sm as_ go sh_ ir oa ob th ig sp_ ki tg of_ kp sf rs), (aI g fd 500 fb)] := hD
                          have hP := hP.sub (ws' := [(oX11 m0 tw ta (nI n) pl (nI k2_211) fb2_212 fw2_213 (cs + 1) fd rfm rt_ to_ rw_ wa ct rk rb cn br sm as_ go sh_ ir oa ob th ig sp_ ki tg of_ kp sf rs), (aI g fd 500 fb), (aI g to_ 25 tl), (aI g rk 7 (upd rk_ 3 r_199)), (aI g rb 36 rb_)]) [3, 4, 0, 1, 2] rfl
                          have hD := hD.sub (ws' := [(oX11 m0 tw ta (nI n) pl (nI k2_211) fb2_212 fw2_213 (cs + 1) fd rfm rt_ to_ rw_ wa ct rk rb cn br sm as_ go sh_ ir oa ob th ig sp_ ki tg of_ kp sf rs), (aI g fd 500 fb), (aI g to_ 25 tl), (aI g rk 7 (upd rk_ 3 r_199)), (aI g rb 36 rb_)]) [3, 4, 0, 1, 2] (by decide) rfl
                          exact he_rv hQ hx hb hr hlk hP hD hS dX11_rules_304 (Nat.le_of_ble_eq_true rfl) (Nat.le_of_ble_eq_true rfl) ((k2_211, fb2_212, fw2_213, cs + 1, upd rk_ 3 r_199, rb_)) (rfl) (by (try dsimp only); exact ⟨by (try dsimp only); omega, by (try dsimp only); omega, (hf_216.imp_right (fun h9 => ⟨h9.1, by have := h9.2.2; omega⟩)), fun h9 => ⟨cOk_upd hc (fun e9 => absurd e9 (by (try dsimp only); decide)) (fun _ => (num_to (lo := 0) (hi := 99) rfl rfl (by (try dsimp only); decide) (by (try dsimp only); decide) hf_207 (fun h7 => h7 (hf_216.resolve_left (fun h8 => h8 h9)).2.1)).imp (fun q h6 => h6.2)) (fun e9 => absurd e9 (by (try dsimp only); decide)), hbo⟩⟩)
                        · exact absurd c_198 (by decide)
                      · exact absurd c_197 (by decide)
                    · exact absurd (by decide) c_196
                  · exact absurd c_195 (by decide)
                · exact absurd c_194 (by decide)
              · exact absurd (by decide) c_187
            · refine lv_aload_n hx hb dX11_rules_171 rfl (lv_at hl 1 rfl) ?_
              refine lv_iconst (v := 3) hx hb dX11_rules_172 (by decide) ?_
              refine lv_aload_n hx hb dX11_rules_173 rfl (lv_at hl 1 rfl) ?_
              refine va_get (v := .int (nI k2_28)) (T := TX11) (N := 35) hx hb hts inX11 hown hK hP 3 rfl rfl 4 (by decide) f94 (fun _ h9 => h9) rfl dX11_rules_174 ?_
              refine he_cv (wc := [(oX11 m0 tw ta (nI n) pl (nI k2_28) 0 fw cs fd rfm rt_ to_ rw_ wa ct rk rb cn br sm as_ go sh_ ir oa ob th ig sp_ ki tg of_ kp sf rs), (aI g fd 500 fb)]) (wr := [(aI g to_ 25 tl), (aI g rk 7 rk_), (aI g rb 36 rb_)]) (va_runV (As := [.int 3, .int (nI k2_28)]) (rest := []) ⟨hx, hb, hml, hown, hts⟩ (h_X11_wrong l g m0 fd rfm rt_ to_ rw_ wa rk rb cn br sm as_ go sh_ ki tg of_ kp rs ta pl cs ct ir oa ob th ig sp_ sf tw n k2_28 0 fw fb 3 (nI k2_28) H.size) (cwV 2 hts gX11_rules_X11_wrong rfl rfl rfl (by decide +kernel) ⟨Nat.le_of_ble_eq_true rfl, Nat.le_of_ble_eq_true rfl⟩) (he_preV (wc := [(oX11 m0 tw ta (nI n) pl (nI k2_28) 0 fw cs fd rfm rt_ to_ rw_ wa ct rk rb cn br sm as_ go sh_ ir oa ob th ig sp_ ki tg of_ kp sf rs), (aI g fd 500 fb)]) hK hP hD hS hA hE [3, 4] rfl rfl 3 rfl rfl) rfl rfl hl.1 rfl (lv_room (Nat.le_of_ble_eq_true rfl)) dX11_rules_177 ⟨(Nat.le_of_ble_eq_true rfl), (Nat.le_of_ble_eq_true rfl)⟩) hP hD hS hA [3, 4] [0, 1, 2] rfl rfl rfl (by decide) (fun u_218 H locs h_219 hP hD hS => ?_)
              have hP : va_P g.1 vwCl [(aI g to_ 25 tl), (aI g rk 7 rk_), (aI g rb 36 rb_), (oX11 m0 tw ta (nI n) pl (nI k2_28) (wrF 0 3) (wrA 0 fw (nI k2_28)) cs fd rfm rt_ to_ rw_ wa ct rk rb cn br sm as_ go sh_ ir oa ob th ig sp_ ki tg of_ kp sf rs), (aI g fd 500 fb)] H := hP
              have hD : va_D A [(aI g to_ 25 tl), (aI g rk 7 rk_), (aI g rb 36 rb_), (oX11 m0 tw ta (nI n) pl (nI k2_28) (wrF 0 3) (wrA 0 fw (nI k2_28)) cs fd rfm rt_ to_ rw_ wa ct rk rb cn br sm as_ go sh_ ir oa ob th ig sp_ ki tg of_ kp sf rs), (aI g fd 500 fb)] := hD
              refine lv_aload_n hx hb dX11_rules_180 rfl (lv_at hl 1 rfl) ?_
              refine va_get (v := .int (wrF 0 3)) (T := TX11) (N := 35) hx hb hts inX11 hown hK hP 3 rfl rfl 5 (by decide) f101 (fun _ h9 => h9) rfl dX11_rules_181 ?_
              refine lv_if_eq (tgt := 188) hx hb dX11_rules_184 (by decide) (fun c_220 => ?_) (fun c_220 => ?_)
              · exact absurd c_220 (by decide)
              · have hP := hP.sub (ws' := [(oX11 m0 tw ta (nI n) pl (nI k2_28) (wrF 0 3) (wrA 0 fw (nI k2_28)) cs fd rfm rt_ to_ rw_ wa ct rk rb cn br sm as_ go sh_ ir oa ob th ig sp_ ki tg of_ kp sf rs), (aI g fd 500 fb), (aI g to_ 25 tl), (aI g rk 7 rk_), (aI g rb 36 rb_)]) [3, 4, 0, 1, 2] rfl
                have hD := hD.sub (ws' := [(oX11 m0 tw ta (nI n) pl (nI k2_28) (wrF 0 3) (wrA 0 fw (nI k2_28)) cs fd rfm rt_ to_ rw_ wa ct rk rb cn br sm as_ go sh_ ir oa ob th ig sp_ ki tg of_ kp sf rs), (aI g fd 500 fb), (aI g to_ 25 tl), (aI g rk 7 rk_), (aI g rb 36 rb_)]) [3, 4, 0, 1, 2] (by decide) rfl
                exact he_rv hQ hx hb hr hlk hP hD hS dX11_rules_187 (Nat.le_of_ble_eq_true rfl) (Nat.le_of_ble_eq_true rfl) ((k2_28, wrF 0 3, wrA 0 fw (nI k2_28), cs, rk_, rb_)) (rfl) (by (try dsimp only); exact ⟨by (try dsimp only); omega, by (try dsimp only); omega, Or.inl (by (try dsimp only); decide), fun h9 => absurd h9 (by (try dsimp only); decide)⟩)
          · exact absurd c_185 (by decide)
      · refine lv_iconst (v := 2) hx hb dX11_rules_56 (by decide) ?_
        refine lv_goto (tgt := 144) hx hb dX11_rules_57 (by decide) ?_
        refine lv_istore_n (lv' := [(1, .int 2), (0, .ref m0)]) hx hb dX11_rules_144 rfl hl (by decide) rfl (fun ls hl => ?_)
        refine lv_iload_n hx hb dX11_rules_145 rfl (lv_at hl 0 rfl) ?_
        refine lv_iconst (v := (-1)) hx hb dX11_rules_146 (by decide) ?_
        refine lv_icmp_ne (tgt := 162) hx hb dX11_rules_147 (by decide) (fun c_221 => ?_) (fun c_221 => ?_)
        · refine lv_aload_n hx hb dX11_rules_162 rfl (lv_at hl 1 rfl) ?_
          refine va_get (v := .int cs) (T := TX11) (N := 35) hx hb hts inX11 hown hK hP 3 rfl rfl 7 (by decide) f131 (fun _ h9 => h9) rfl dX11_rules_163 ?_
          refine lv_bipush (v := 20) hx hb dX11_rules_166 (by decide) ?_
          refine lv_icmp_ne (tgt := 180) hx hb dX11_rules_168 (by decide) (fun c_222 => ?_) (fun c_222 => ?_)
          · refine lv_aload_n hx hb dX11_rules_180 rfl (lv_at hl 1 rfl) ?_
            refine va_get (v := .int 0) (T := TX11) (N := 35) hx hb hts inX11 hown hK hP 3 rfl rfl 5 (by decide) f101 (fun _ h9 => h9) rfl dX11_rules_181 ?_
            refine lv_if_eq (tgt := 188) hx hb dX11_rules_184 (by decide) (fun c_223 => ?_) (fun c_223 => ?_)
            · refine lv_aload_n hx hb dX11_rules_188 rfl (lv_at hl 1 rfl) ?_
              refine he_cv (wc := [(oX11 m0 tw ta (nI n) pl (nI k2_20) 0 fw cs fd rfm rt_ to_ rw_ wa ct rk rb cn br sm as_ go sh_ ir oa ob th ig sp_ ki tg of_ kp sf rs), (aI g fd 500 fb)]) (wr := [(aI g to_ 25 tl), (aI g rk 7 rk_), (aI g rb 36 rb_)]) (va_runV (As := []) (rest := []) ⟨hx, hb, hml, hown, hts⟩ (h_X11_skipWord l g m0 fd rfm rt_ to_ rw_ wa rk rb cn br sm as_ go sh_ ki tg of_ kp rs ta pl cs ct ir oa ob th ig sp_ sf tw n k2_20 0 fw fb (by first | assumption | decide | omega) (by first | assumption | decide | omega) H.size) (cwV 0 hts gX11_rules_X11_skipWord rfl rfl rfl (by decide +kernel) ⟨Nat.le_of_ble_eq_true rfl, Nat.le_of_ble_eq_true rfl⟩) (he_preV (wc := [(oX11 m0 tw ta (nI n) pl (nI k2_20) 0 fw cs fd rfm rt_ to_ rw_ wa ct rk rb cn br sm as_ go sh_ ir oa ob th ig sp_ ki tg of_ kp sf rs), (aI g fd 500 fb)]) hK hP hD hS hA hE [3, 4] rfl rfl 3 rfl rfl) rfl rfl hl.1 rfl (lv_room (Nat.le_of_ble_eq_true rfl)) dX11_rules_189 ⟨(Nat.le_of_ble_eq_true rfl), (Nat.le_of_ble_eq_true rfl)⟩) hP hD hS hA [3, 4] [0, 1, 2] rfl rfl rfl (by decide) (fun u_225 H locs h_226 hP hD hS => ?_)
              obtain ⟨k2_227, rfl⟩ : ∃ z, z = u_225 := ⟨_, rfl⟩
              try dsimp only at h_226
              obtain ⟨hf_228, hf_229⟩ := h_226
              have hP : va_P g.1 vwCl [(aI g to_ 25 tl), (aI g rk 7 rk_), (aI g rb 36 rb_), (oX11 m0 tw ta (nI n) pl (nI k2_227) 0 fw cs fd rfm rt_ to_ rw_ wa ct rk rb cn br sm as_ go sh_ ir oa ob th ig sp_ ki tg of_ kp sf rs), (aI g fd 500 fb)] H := hP
              have hD : va_D A [(aI g to_ 25 tl), (aI g rk 7 rk_), (aI g rb 36 rb_), (oX11 m0 tw ta (nI n) pl (nI k2_227) 0 fw cs fd rfm rt_ to_ rw_ wa ct rk rb cn br sm as_ go sh_ ir oa ob th ig sp_ ki tg of_ kp sf rs), (aI g fd 500 fb)] := hD
              refine lv_aload_n hx hb dX11_rules_192 rfl (lv_at hl 1 rfl) ?_
              refine lv_dup hx hb dX11_rules_193 rfl ?_
              refine va_get (v := .int cs) (T := TX11) (N := 35) hx hb hts inX11 hown hK hP 3 rfl rfl 7 (by decide) f131 (fun _ h9 => h9) rfl dX11_rules_194 ?_
              refine lv_iconst (v := 1) hx hb dX11_rules_197 (by decide) ?_
              refine lv_iadd hx hb dX11_rules_198 ?_
              refine va_put (v := .int (cs + 1)) (ty := .int) (T := TX11) (N := 35) hx hb hts inX11 tyX11 tyX11_ok nmX11 hown hK hP hD hS 3 rfl rfl 7 (by decide) f131 (fun _ h9 => h9) rfl (by decide +kernel) rfl rfl (Nat.le_of_ble_eq_true rfl) dX11_rules_199 (fun H locs hP hD hS => ?_)
              have hP : va_P g.1 vwCl [(aI g to_ 25 tl), (aI g rk 7 rk_), (aI g rb 36 rb_), (oX11 m0 tw ta (nI n) pl (nI k2_227) 0 fw (cs + 1) fd rfm rt_ to_ rw_ wa ct rk rb cn br sm as_ go sh_ ir oa ob th ig sp_ ki tg of_ kp sf rs), (aI g fd 500 fb)] H := hP
              have hD : va_D A [(aI g to_ 25 tl), (aI g rk 7 rk_), (aI g rb 36 rb_), (oX11 m0 tw ta (nI n) pl (nI k2_227) 0 fw (cs + 1) fd rfm rt_ to_ rw_ wa ct rk rb cn br sm as_ go sh_ ir oa ob th ig sp_ ki tg of_ kp sf rs), (aI g fd 500 fb)] := hD
              refine lv_iload_n hx hb dX11_rules_202 rfl (lv_at hl 0 rfl) ?_
              refine lv_bipush (v := 6) hx hb dX11_rules_203 (by decide) ?_
              refine lv_icmp_ne (tgt := 247) hx hb dX11_rules_205 (by decide) (fun c_230 => ?_) (fun c_230 => ?_)
              · refine lv_aload_n hx hb dX11_rules_247 rfl (lv_at hl 1 rfl) ?_
                refine va_get (v := .ref rk) (T := TX11) (N := 35) hx hb hts inX11 hown hK hP 3 rfl rfl 15 (by decide) f34 (fun _ h9 => h9) rfl dX11_rules_248 ?_
                refine lv_iload_n hx hb dX11_rules_251 rfl (lv_at hl 0 rfl) ?_
                refine lv_aload_n hx hb dX11_rules_252 rfl (lv_at hl 1 rfl) ?_
                refine lv_iload_n hx hb dX11_rules_253 rfl (lv_at hl 0 rfl) ?_
                refine lv_iconst (v := 5) hx hb dX11_rules_254 (by decide) ?_
                refine lv_icmp_ne (tgt := 262) hx hb dX11_rules_255 (by decide) (fun c_231 => ?_) (fun c_231 => ?_)
                · refine lv_iconst (v := 0) hx hb dX11_rules_262 (by decide) ?_
                  refine lv_iload_n hx hb dX11_rules_263 rfl (lv_at hl 0 rfl) ?_
                  refine lv_iconst (v := 2) hx hb dX11_rules_264 (by decide) ?_
                  refine lv_icmp_ge (tgt := 274) hx hb dX11_rules_265 (by decide) (fun c_232 => ?_) (fun c_232 => ?_)
                  · refine lv_iload_n hx hb dX11_rules_274 rfl (lv_at hl 0 rfl) ?_
                    refine lv_iconst (v := 2) hx hb dX11_rules_275 (by decide) ?_
                    refine lv_icmp_ne (tgt := 284) hx hb dX11_rules_276 (by decide) (fun c_233 => ?_) (fun c_233 => ?_)
                    · exact absurd (by decide) c_233
                    · refine lv_bipush (v := 9) hx hb dX11_rules_279 (by decide) ?_
                      refine lv_goto (tgt := 296) hx hb dX11_rules_281 (by decide) ?_
                      refine he_ci (wc := [(oX11 m0 tw ta (nI n) pl (nI k2_227) 0 fw (cs + 1) fd rfm rt_ to_ rw_ wa ct rk rb cn br sm as_ go sh_ ir oa ob th ig sp_ ki tg of_ kp sf rs), (aI g fd 500 fb)]) (wr := [(aI g to_ 25 tl), (aI g rk 7 rk_), (aI g rb 36 rb_)]) (va_runV (As := [.int 0, .int 9]) (rest := [.int 2, .ref rk]) ⟨hx, hb, hml, hown, hts⟩ (h_X11_number l g m0 fd rfm rt_ to_ rw_ wa rk rb cn br sm as_ go sh_ ki tg of_ kp rs ta pl (cs + 1) ct ir oa ob th ig sp_ sf tw n k2_227 0 fw fb 0 9 (by first | assumption | decide | omega) (by first | assumption | decide | omega) H.size) (cwV 2 hts gX11_rules_X11_number rfl rfl rfl (by decide +kernel) ⟨Nat.le_of_ble_eq_true rfl, Nat.le_of_ble_eq_true rfl⟩) (he_preV (wc := [(oX11 m0 tw ta (nI n) pl (nI k2_227) 0 fw (cs + 1) fd rfm rt_ to_ rw_ wa ct rk rb cn br sm as_ go sh_ ir oa ob th ig sp_ ki tg of_ kp sf rs), (aI g fd 500 fb)]) hK hP hD hS hA hE [3, 4] rfl rfl 3 rfl rfl) rfl rfl hl.1 rfl (lv_room (Nat.le_of_ble_eq_true rfl)) dX11_rules_296 ⟨(Nat.le_of_ble_eq_true rfl), (Nat.le_of_ble_eq_true rfl)⟩) hP hD hS hA [3, 4] [0, 1, 2] rfl rfl rfl (by decide) (fun r_234 u_235 H locs h_236 hP hD hS => ?_)
                      obtain ⟨k2_237, fb2_238, fw2_239⟩ := u_235
                      try dsimp only at h_236
                      obtain ⟨hf_240, hf_241, hf_242⟩ := h_236
                      have hP : va_P g.1 vwCl [(aI g to_ 25 tl), (aI g rk 7 rk_), (aI g rb 36 rb_), (oX11 m0 tw ta (nI n) pl (nI k2_237) fb2_238 fw2_239 (cs + 1) fd rfm rt_ to_ rw_ wa ct rk rb cn br sm as_ go sh_ ir oa ob th ig sp_ ki tg of_ kp sf rs), (aI g fd 500 fb)] H := hP
                      have hD : va_D A [(aI g to_ 25 tl), (aI g rk 7 rk_), (aI g rb 36 rb_), (oX11 m0 tw ta (nI n) pl (nI k2_237) fb2_238 fw2_239 (cs + 1) fd rfm rt_ to_ rw_ wa ct rk rb cn br sm as_ go sh_ ir oa ob th ig sp_ ki tg of_ kp sf rs), (aI g fd 500 fb)] := hD
                      refine he_iast hx hb hK hP hD hS 1 rfl (2) (by decide) (by decide) (by first | decide | assumption) dX11_rules_299 (fun H locs hP hD hS => ?_)
                      have hP : va_P g.1 vwCl [(aI g to_ 25 tl), (aI g rk 7 (upd rk_ 2 r_234)), (aI g rb 36 rb_), (oX11 m0 tw ta (nI n) pl (nI k2_237) fb2_238 fw2_239 (cs + 1) fd rfm rt_ to_ rw_ wa ct rk rb cn br sm as_ go sh_ ir oa ob th ig sp_ ki tg of_ kp sf rs), (aI g fd 500 fb)] H := hP
                      have hD : va_D A [(aI g to_ 25 tl), (aI g rk 7 (upd rk_ 2 r_234)), (aI g rb 36 rb_), (oX11 m0 tw ta (nI n) pl (nI k2_237) fb2_238 fw2_239 (cs + 1) fd rfm rt_ to_ rw_ wa ct rk rb cn br sm as_ go sh_ ir oa ob th ig sp_ ki tg of_ kp sf rs), (aI g fd 500 fb)] := hD
                      refine lv_aload_n hx hb dX11_rules_300 rfl (lv_at hl 1 rfl) ?_
                      refine he_cv (wc := [(oX11 m0 tw ta (nI n) pl (nI k2_237) fb2_238 fw2_239 (cs + 1) fd rfm rt_ to_ rw_ wa ct rk rb cn br sm as_ go sh_ ir oa ob th ig sp_ ki tg of_ kp sf rs), (aI g fd 500 fb)]) (wr := [(aI g to_ 25 tl), (aI g rk 7 (upd rk_ 2 r_234)), (aI g rb 36 rb_)]) (va_runV (As := []) (rest := []) ⟨hx, hb, hml, hown, hts⟩ (h_X11_closes l g m0 fd rfm rt_ to_ rw_ wa rk rb cn br sm as_ go sh_ ki tg of_ kp rs ta pl (cs + 1) ct ir oa ob th ig sp_ sf tw n k2_237 fb2_238 fw2_239 fb (by first | assumption | decide | omega) (by first | assumption | decide | omega) H.size) (cwV 0 hts gX11_rules_X11_closes rfl rfl rfl (by decide +kernel) ⟨Nat.le_of_ble_eq_true rfl, Nat.le_of_ble_eq_true rfl⟩) (he_preV (wc := [(oX11 m0 tw ta (nI n) pl (nI k2_237) fb2_238 fw2_239 (cs + 1) fd rfm rt_ to_ rw_ wa ct rk rb cn br sm as_ go sh_ ir oa ob th ig sp_ ki tg of_ kp sf rs), (aI g fd 500 fb)]) hK hP hD hS hA hE [3, 4] rfl rfl 3 rfl rfl) rfl rfl hl.1 rfl (lv_room (Nat.le_of_ble_eq_true rfl)) dX11_rules_301 ⟨(Nat.le_of_ble_eq_true rfl), (Nat.le_of_ble_eq_true rfl)⟩) hP hD hS hA [3, 4] [0, 1, 2] rfl rfl rfl (by decide) (fun u_244 H locs h_245 hP hD hS => ?_)
                      obtain ⟨k2_246, fb2_247, fw2_248⟩ := u_244
                      try dsimp only at h_245
                      obtain ⟨hf_249, hf_250, hf_251⟩ := h_245
                      have hP : va_P g.1 vwCl [(aI g to_ 25 tl), (aI g rk 7 (upd rk_ 2 r_234)), (aI g rb 36 rb_), (oX11 m0 tw ta (nI n) pl (nI k2_246) fb2_247 fw2_248 (cs + 1) fd rfm rt_ to_ rw_ wa ct rk rb cn br sm as_ go sh_ ir oa ob th ig sp_ ki tg of_ kp sf rs), (aI g fd 500 fb)] H := hP
                      have hD : va_D A [(aI g to_ 25 tl), (aI g rk 7 (upd rk_ 2 r_234)), (aI g rb 36 rb_), (oX11 m0 tw ta (nI n) pl (nI k2_246) fb2_247 fw2_248 (cs + 1) fd rfm rt_ to_ rw_ wa ct rk rb cn br sm as_ go sh_ ir oa ob th ig sp_ ki tg of_ kp sf rs), (aI g fd 500 fb)] := hD
                      have hP := hP.sub (ws' := [(oX11 m0 tw ta (nI n) pl (nI k2_246) fb2_247 fw2_248 (cs + 1) fd rfm rt_ to_ rw_ wa ct rk rb cn br sm as_ go sh_ ir oa ob th ig sp_ ki tg of_ kp sf rs), (aI g fd 500 fb), (aI g to_ 25 tl), (aI g rk 7 (upd rk_ 2 r_234)), (aI g rb 36 rb_)]) [3, 4, 0, 1, 2] rfl
                      have hD := hD.sub (ws' := [(oX11 m0 tw ta (nI n) pl (nI k2_246) fb2_247 fw2_248 (cs + 1) fd rfm rt_ to_ rw_ wa ct rk rb cn br sm as_ go sh_ ir oa ob th ig sp_ ki tg of_ kp sf rs), (aI g fd 500 fb), (aI g to_ 25 tl), (aI g rk 7 (upd rk_ 2 r_234)), (aI g rb 36 rb_)]) [3, 4, 0, 1, 2] (by decide) rfl
                      exact he_rv hQ hx hb hr hlk hP hD hS dX11_rules_304 (Nat.le_of_ble_eq_true rfl) (Nat.le_of_ble_eq_true rfl) ((k2_246, fb2_247, fw2_248, cs + 1, upd rk_ 2 r_234, rb_)) (rfl) (by (try dsimp only); exact ⟨by (try dsimp only); omega, by (try dsimp only); omega, (hf_251.imp_right (fun h9 => ⟨h9.1, by have := h9.2.2; omega⟩)), fun h9 => ⟨cOk_upd hc (fun _ => (num_to (lo := 0) (hi := 9) rfl rfl (by (try dsimp only); decide) (by (try dsimp only); decide) hf_242 (fun h7 => h7 (hf_251.resolve_left (fun h8 => h8 h9)).2.1)).imp (fun q h6 => h6.2)) (fun e9 => absurd e9 (by (try dsimp only); decide)) (fun e9 => absurd e9 (by (try dsimp only); decide)), hbo⟩⟩)
                  · exact absurd (by decide) c_232
                · exact absurd c_231 (by decide)
              · exact absurd c_230 (by decide)
            · exact absurd (by decide) c_223
          · refine lv_aload_n hx hb dX11_rules_171 rfl (lv_at hl 1 rfl) ?_
            refine lv_iconst (v := 3) hx hb dX11_rules_172 (by decide) ?_
            refine lv_aload_n hx hb dX11_rules_173 rfl (lv_at hl 1 rfl) ?_
            refine va_get (v := .int (nI k2_20)) (T := TX11) (N := 35) hx hb hts inX11 hown hK hP 3 rfl rfl 4 (by decide) f94 (fun _ h9 => h9) rfl dX11_rules_174 ?_
            refine he_cv (wc := [(oX11 m0 tw ta (nI n) pl (nI k2_20) 0 fw cs fd rfm rt_ to_ rw_ wa ct rk rb cn br sm as_ go sh_ ir oa ob th ig sp_ ki tg of_ kp sf rs), (aI g fd 500 fb)]) (wr := [(aI g to_ 25 tl), (aI g rk 7 rk_), (aI g rb 36 rb_)]) (va_runV (As := [.int 3, .int (nI k2_20)]) (rest := []) ⟨hx, hb, hml, hown, hts⟩ (h_X11_wrong l g m0 fd rfm rt_ to_ rw_ wa rk rb cn br sm as_ go sh_ ki tg of_ kp rs ta pl cs ct ir oa ob th ig sp_ sf tw n k2_20 0 fw fb 3 (nI k2_20) H.size) (cwV 2 hts gX11_rules_X11_wrong rfl rfl rfl (by decide +kernel) ⟨Nat.le_of_ble_eq_true rfl, Nat.le_of_ble_eq_true rfl⟩) (he_preV (wc := [(oX11 m0 tw ta (nI n) pl (nI k2_20) 0 fw cs fd rfm rt_ to_ rw_ wa ct rk rb cn br sm as_ go sh_ ir oa ob th ig sp_ ki tg of_ kp sf rs), (aI g fd 500 fb)]) hK hP hD hS hA hE [3, 4] rfl rfl 3 rfl rfl) rfl rfl hl.1 rfl (lv_room (Nat.le_of_ble_eq_true rfl)) dX11_rules_177 ⟨(Nat.le_of_ble_eq_true rfl), (Nat.le_of_ble_eq_true rfl)⟩) hP hD hS hA [3, 4] [0, 1, 2] rfl rfl rfl (by decide) (fun u_253 H locs h_254 hP hD hS => ?_)
            have hP : va_P g.1 vwCl [(aI g to_ 25 tl), (aI g rk 7 rk_), (aI g rb 36 rb_), (oX11 m0 tw ta (nI n) pl (nI k2_20) (wrF 0 3) (wrA 0 fw (nI k2_20)) cs fd rfm rt_ to_ rw_ wa ct rk rb cn br sm as_ go sh_ ir oa ob th ig sp_ ki tg of_ kp sf rs), (aI g fd 500 fb)] H := hP
            have hD : va_D A [(aI g to_ 25 tl), (aI g rk 7 rk_), (aI g rb 36 rb_), (oX11 m0 tw ta (nI n) pl (nI k2_20) (wrF 0 3) (wrA 0 fw (nI k2_20)) cs fd rfm rt_ to_ rw_ wa ct rk rb cn br sm as_ go sh_ ir oa ob th ig sp_ ki tg of_ kp sf rs), (aI g fd 500 fb)] := hD
            refine lv_aload_n hx hb dX11_rules_180 rfl (lv_at hl 1 rfl) ?_
            refine va_get (v := .int (wrF 0 3)) (T := TX11) (N := 35) hx hb hts inX11 hown hK hP 3 rfl rfl 5 (by decide) f101 (fun _ h9 => h9) rfl dX11_rules_181 ?_
            refine lv_if_eq (tgt := 188) hx hb dX11_rules_184 (by decide) (fun c_255 => ?_) (fun c_255 => ?_)
            · exact absurd c_255 (by decide)
            · have hP := hP.sub (ws' := [(oX11 m0 tw ta (nI n) pl (nI k2_20) (wrF 0 3) (wrA 0 fw (nI k2_20)) cs fd rfm rt_ to_ rw_ wa ct rk rb cn br sm as_ go sh_ ir oa ob th ig sp_ ki tg of_ kp sf rs), (aI g fd 500 fb), (aI g to_ 25 tl), (aI g rk 7 rk_), (aI g rb 36 rb_)]) [3, 4, 0, 1, 2] rfl
              have hD := hD.sub (ws' := [(oX11 m0 tw ta (nI n) pl (nI k2_20) (wrF 0 3) (wrA 0 fw (nI k2_20)) cs fd rfm rt_ to_ rw_ wa ct rk rb cn br sm as_ go sh_ ir oa ob th ig sp_ ki tg of_ kp sf rs), (aI g fd 500 fb), (aI g to_ 25 tl), (aI g rk 7 rk_), (aI g rb 36 rb_)]) [3, 4, 0, 1, 2] (by decide) rfl
              exact he_rv hQ hx hb hr hlk hP hD hS dX11_rules_187 (Nat.le_of_ble_eq_true rfl) (Nat.le_of_ble_eq_true rfl) ((k2_20, wrF 0 3, wrA 0 fw (nI k2_20), cs, rk_, rb_)) (rfl) (by (try dsimp only); exact ⟨by (try dsimp only); omega, by (try dsimp only); omega, Or.inl (by (try dsimp only); decide), fun h9 => absurd h9 (by (try dsimp only); decide)⟩)
        · exact absurd c_221 (by decide)
    · refine lv_iconst (v := 1) hx hb dX11_rules_37 (by decide) ?_
      refine lv_goto (tgt := 144) hx hb dX11_rules_38 (by decide) ?_
      refine lv_istore_n (lv' := [(1, .int 1), (0, .ref m0)]) hx hb dX11_rules_144 rfl hl (by decide) rfl (fun ls hl => ?_)
      refine lv_iload_n hx hb dX11_rules_145 rfl (lv_at hl 0 rfl) ?_
      refine lv_iconst (v := (-1)) hx hb dX11_rules_146 (by decide) ?_
      refine lv_icmp_ne (tgt := 162) hx hb dX11_rules_147 (by decide) (fun c_256 => ?_) (fun c_256 => ?_)
      · refine lv_aload_n hx hb dX11_rules_162 rfl (lv_at hl 1 rfl) ?_
        refine va_get (v := .int cs) (T := TX11) (N := 35) hx hb hts inX11 hown hK hP 3 rfl rfl 7 (by decide) f131 (fun _ h9 => h9) rfl dX11_rules_163 ?_
        refine lv_bipush (v := 20) hx hb dX11_rules_166 (by decide) ?_
        refine lv_icmp_ne (tgt := 180) hx hb dX11_rules_168 (by decide) (fun c_257 => ?_) (fun c_257 => ?_)
        · refine lv_aload_n hx hb dX11_rules_180 rfl (lv_at hl 1 rfl) ?_
          refine va_get (v := .int 0) (T := TX11) (N := 35) hx hb hts inX11 hown hK hP 3 rfl rfl 5 (by decide) f101 (fun _ h9 => h9) rfl dX11_rules_181 ?_
          refine lv_if_eq (tgt := 188) hx hb dX11_rules_184 (by decide) (fun c_258 => ?_) (fun c_258 => ?_)
          · refine lv_aload_n hx hb dX11_rules_188 rfl (lv_at hl 1 rfl) ?_
            refine he_cv (wc := [(oX11 m0 tw ta (nI n) pl (nI k2_12) 0 fw cs fd rfm rt_ to_ rw_ wa ct rk rb cn br sm as_ go sh_ ir oa ob th ig sp_ ki tg of_ kp sf rs), (aI g fd 500 fb)]) (wr := [(aI g to_ 25 tl), (aI g rk 7 rk_), (aI g rb 36 rb_)]) (va_runV (As := []) (rest := []) ⟨hx, hb, hml, hown, hts⟩ (h_X11_skipWord l g m0 fd rfm rt_ to_ rw_ wa rk rb cn br sm as_ go sh_ ki tg of_ kp rs ta pl cs ct ir oa ob th ig sp_ sf tw n k2_12 0 fw fb (by first | assumption | decide | omega) (by first | assumption | decide | omega) H.size) (cwV 0 hts gX11_rules_X11_skipWord rfl rfl rfl (by decide +kernel) ⟨Nat.le_of_ble_eq_true rfl, Nat.le_of_ble_eq_true rfl⟩) (he_preV (wc := [(oX11 m0 tw ta (nI n) pl (nI k2_12) 0 fw cs fd rfm rt_ to_ rw_ wa ct rk rb cn br sm as_ go sh_ ir oa ob th ig sp_ ki tg of_ kp sf rs), (aI g fd 500 fb)]) hK hP hD hS hA hE [3, 4] rfl rfl 3 rfl rfl) rfl rfl hl.1 rfl (lv_room (Nat.le_of_ble_eq_true rfl)) dX11_rules_189 ⟨(Nat.le_of_ble_eq_true rfl), (Nat.le_of_ble_eq_true rfl)⟩) hP hD hS hA [3, 4] [0, 1, 2] rfl rfl rfl (by decide) (fun u_260 H locs h_261 hP hD hS => ?_)
            obtain ⟨k2_262, rfl⟩ : ∃ z, z = u_260 := ⟨_, rfl⟩
            try dsimp only at h_261
            obtain ⟨hf_263, hf_264⟩ := h_261
            have hP : va_P g.1 vwCl [(aI g to_ 25 tl), (aI g rk 7 rk_), (aI g rb 36 rb_), (oX11 m0 tw ta (nI n) pl (nI k2_262) 0 fw cs fd rfm rt_ to_ rw_ wa ct rk rb cn br sm as_ go sh_ ir oa ob th ig sp_ ki tg of_ kp sf rs), (aI g fd 500 fb)] H := hP
            have hD : va_D A [(aI g to_ 25 tl), (aI g rk 7 rk_), (aI g rb 36 rb_), (oX11 m0 tw ta (nI n) pl (nI k2_262) 0 fw cs fd rfm rt_ to_ rw_ wa ct rk rb cn br sm as_ go sh_ ir oa ob th ig sp_ ki tg of_ kp sf rs), (aI g fd 500 fb)] := hD
            refine lv_aload_n hx hb dX11_rules_192 rfl (lv_at hl 1 rfl) ?_
            refine lv_dup hx hb dX11_rules_193 rfl ?_
            refine va_get (v := .int cs) (T := TX11) (N := 35) hx hb hts inX11 hown hK hP 3 rfl rfl 7 (by decide) f131 (fun _ h9 => h9) rfl dX11_rules_194 ?_
            refine lv_iconst (v := 1) hx hb dX11_rules_197 (by decide) ?_
            refine lv_iadd hx hb dX11_rules_198 ?_
            refine va_put (v := .int (cs + 1)) (ty := .int) (T := TX11) (N := 35) hx hb hts inX11 tyX11 tyX11_ok nmX11 hown hK hP hD hS 3 rfl rfl 7 (by decide) f131 (fun _ h9 => h9) rfl (by decide +kernel) rfl rfl (Nat.le_of_ble_eq_true rfl) dX11_rules_199 (fun H locs hP hD hS => ?_)
            have hP : va_P g.1 vwCl [(aI g to_ 25 tl), (aI g rk 7 rk_), (aI g rb 36 rb_), (oX11 m0 tw ta (nI n) pl (nI k2_262) 0 fw (cs + 1) fd rfm rt_ to_ rw_ wa ct rk rb cn br sm as_ go sh_ ir oa ob th ig sp_ ki tg of_ kp sf rs), (aI g fd 500 fb)] H := hP
            have hD : va_D A [(aI g to_ 25 tl), (aI g rk 7 rk_), (aI g rb 36 rb_), (oX11 m0 tw ta (nI n) pl (nI k2_262) 0 fw (cs + 1) fd rfm rt_ to_ rw_ wa ct rk rb cn br sm as_ go sh_ ir oa ob th ig sp_ ki tg of_ kp sf rs), (aI g fd 500 fb)] := hD
            refine lv_iload_n hx hb dX11_rules_202 rfl (lv_at hl 0 rfl) ?_
            refine lv_bipush (v := 6) hx hb dX11_rules_203 (by decide) ?_
            refine lv_icmp_ne (tgt := 247) hx hb dX11_rules_205 (by decide) (fun c_265 => ?_) (fun c_265 => ?_)
            · refine lv_aload_n hx hb dX11_rules_247 rfl (lv_at hl 1 rfl) ?_
              refine va_get (v := .ref rk) (T := TX11) (N := 35) hx hb hts inX11 hown hK hP 3 rfl rfl 15 (by decide) f34 (fun _ h9 => h9) rfl dX11_rules_248 ?_
              refine lv_iload_n hx hb dX11_rules_251 rfl (lv_at hl 0 rfl) ?_
              refine lv_aload_n hx hb dX11_rules_252 rfl (lv_at hl 1 rfl) ?_
              refine lv_iload_n hx hb dX11_rules_253 rfl (lv_at hl 0 rfl) ?_
              refine lv_iconst (v := 5) hx hb dX11_rules_254 (by decide) ?_
              refine lv_icmp_ne (tgt := 262) hx hb dX11_rules_255 (by decide) (fun c_266 => ?_) (fun c_266 => ?_)
              · refine lv_iconst (v := 0) hx hb dX11_rules_262 (by decide) ?_
                refine lv_iload_n hx hb dX11_rules_263 rfl (lv_at hl 0 rfl) ?_
                refine lv_iconst (v := 2) hx hb dX11_rules_264 (by decide) ?_
                refine lv_icmp_ge (tgt := 274) hx hb dX11_rules_265 (by decide) (fun c_267 => ?_) (fun c_267 => ?_)
                · exact absurd c_267 (by decide)
                · refine lv_sipush (v := 999) hx hb dX11_rules_268 (by decide) ?_
                  refine lv_goto (tgt := 296) hx hb dX11_rules_271 (by decide) ?_
                  refine he_ci (wc := [(oX11 m0 tw ta (nI n) pl (nI k2_262) 0 fw (cs + 1) fd rfm rt_ to_ rw_ wa ct rk rb cn br sm as_ go sh_ ir oa ob th ig sp_ ki tg of_ kp sf rs), (aI g fd 500 fb)]) (wr := [(aI g to_ 25 tl), (aI g rk 7 rk_), (aI g rb 36 rb_)]) (va_runV (As := [.int 0, .int 999]) (rest := [.int 1, .ref rk]) ⟨hx, hb, hml, hown, hts⟩ (h_X11_number l g m0 fd rfm rt_ to_ rw_ wa rk rb cn br sm as_ go sh_ ki tg of_ kp rs ta pl (cs + 1) ct ir oa ob th ig sp_ sf tw n k2_262 0 fw fb 0 999 (by first | assumption | decide | omega) (by first | assumption | decide | omega) H.size) (cwV 2 hts gX11_rules_X11_number rfl rfl rfl (by decide +kernel) ⟨Nat.le_of_ble_eq_true rfl, Nat.le_of_ble_eq_true rfl⟩) (he_preV (wc := [(oX11 m0 tw ta (nI n) pl (nI k2_262) 0 fw (cs + 1) fd rfm rt_ to_ rw_ wa ct rk rb cn br sm as_ go sh_ ir oa ob th ig sp_ ki tg of_ kp sf rs), (aI g fd 500 fb)]) hK hP hD hS hA hE [3, 4] rfl rfl 3 rfl rfl) rfl rfl hl.1 rfl (lv_room (Nat.le_of_ble_eq_true rfl)) dX11_rules_296 ⟨(Nat.le_of_ble_eq_true rfl), (Nat.le_of_ble_eq_true rfl)⟩) hP hD hS hA [3, 4] [0, 1, 2] rfl rfl rfl (by decide) (fun r_268 u_269 H locs h_270 hP hD hS => ?_)
                  obtain ⟨k2_271, fb2_272, fw2_273⟩ := u_269
                  try dsimp only at h_270
                  obtain ⟨hf_274, hf_275, hf_276⟩ := h_270
                  have hP : va_P g.1 vwCl [(aI g to_ 25 tl), (aI g rk 7 rk_), (aI g rb 36 rb_), (oX11 m0 tw ta (nI n) pl (nI k2_271) fb2_272 fw2_273 (cs + 1) fd rfm rt_ to_ rw_ wa ct rk rb cn br sm as_ go sh_ ir oa ob th ig sp_ ki tg of_ kp sf rs), (aI g fd 500 fb)] H := hP
                  have hD : va_D A [(aI g to_ 25 tl), (aI g rk 7 rk_), (aI g rb 36 rb_), (oX11 m0 tw ta (nI n) pl (nI k2_271) fb2_272 fw2_273 (cs + 1) fd rfm rt_ to_ rw_ wa ct rk rb cn br sm as_ go sh_ ir oa ob th ig sp_ ki tg of_ kp sf rs), (aI g fd 500 fb)] := hD
                  refine he_iast hx hb hK hP hD hS 1 rfl (1) (by decide) (by decide) (by first | decide | assumption) dX11_rules_299 (fun H locs hP hD hS => ?_)
                  have hP : va_P g.1 vwCl [(aI g to_ 25 tl), (aI g rk 7 (upd rk_ 1 r_268)), (aI g rb 36 rb_), (oX11 m0 tw ta (nI n) pl (nI k2_271) fb2_272 fw2_273 (cs + 1) fd rfm rt_ to_ rw_ wa ct rk rb cn br sm as_ go sh_ ir oa ob th ig sp_ ki tg of_ kp sf rs), (aI g fd 500 fb)] H := hP
                  have hD : va_D A [(aI g to_ 25 tl), (aI g rk 7 (upd rk_ 1 r_268)), (aI g rb 36 rb_), (oX11 m0 tw ta (nI n) pl (nI k2_271) fb2_272 fw2_273 (cs + 1) fd rfm rt_ to_ rw_ wa ct rk rb cn br sm as_ go sh_ ir oa ob th ig sp_ ki tg of_ kp sf rs), (aI g fd 500 fb)] := hD
                  refine lv_aload_n hx hb dX11_rules_300 rfl (lv_at hl 1 rfl) ?_
                  refine he_cv (wc := [(oX11 m0 tw ta (nI n) pl (nI k2_271) fb2_272 fw2_273 (cs + 1) fd rfm rt_ to_ rw_ wa ct rk rb cn br sm as_ go sh_ ir oa ob th ig sp_ ki tg of_ kp sf rs), (aI g fd 500 fb)]) (wr := [(aI g to_ 25 tl), (aI g rk 7 (upd rk_ 1 r_268)), (aI g rb 36 rb_)]) (va_runV (As := []) (rest := []) ⟨hx, hb, hml, hown, hts⟩ (h_X11_closes l g m0 fd rfm rt_ to_ rw_ wa rk rb cn br sm as_ go sh_ ki tg of_ kp rs ta pl (cs + 1) ct ir oa ob th ig sp_ sf tw n k2_271 fb2_272 fw2_273 fb (by first | assumption | decide | omega) (by first | assumption | decide | omega) H.size) (cwV 0 hts gX11_rules_X11_closes rfl rfl rfl (by decide +kernel) ⟨Nat.le_of_ble_eq_true rfl, Nat.le_of_ble_eq_true rfl⟩) (he_preV (wc := [(oX11 m0 tw ta (nI n) pl (nI k2_271) fb2_272 fw2_273 (cs + 1) fd rfm rt_ to_ rw_ wa ct rk rb cn br sm as_ go sh_ ir oa ob th ig sp_ ki tg of_ kp sf rs), (aI g fd 500 fb)]) hK hP hD hS hA hE [3, 4] rfl rfl 3 rfl rfl) rfl rfl hl.1 rfl (lv_room (Nat.le_of_ble_eq_true rfl)) dX11_rules_301 ⟨(Nat.le_of_ble_eq_true rfl), (Nat.le_of_ble_eq_true rfl)⟩) hP hD hS hA [3, 4] [0, 1, 2] rfl rfl rfl (by decide) (fun u_278 H locs h_279 hP hD hS => ?_)
                  obtain ⟨k2_280, fb2_281, fw2_282⟩ := u_278
                  try dsimp only at h_279
                  obtain ⟨hf_283, hf_284, hf_285⟩ := h_279
                  have hP : va_P g.1 vwCl [(aI g to_ 25 tl), (aI g rk 7 (upd rk_ 1 r_268)), (aI g rb 36 rb_), (oX11 m0 tw ta (nI n) pl (nI k2_280) fb2_281 fw2_282 (cs + 1) fd rfm rt_ to_ rw_ wa ct rk rb cn br sm as_ go sh_ ir oa ob th ig sp_ ki tg of_ kp sf rs), (aI g fd 500 fb)] H := hP
                  have hD : va_D A [(aI g to_ 25 tl), (aI g rk 7 (upd rk_ 1 r_268)), (aI g rb 36 rb_), (oX11 m0 tw ta (nI n) pl (nI k2_280) fb2_281 fw2_282 (cs + 1) fd rfm rt_ to_ rw_ wa ct rk rb cn br sm as_ go sh_ ir oa ob th ig sp_ ki tg of_ kp sf rs), (aI g fd 500 fb)] := hD
                  have hP := hP.sub (ws' := [(oX11 m0 tw ta (nI n) pl (nI k2_280) fb2_281 fw2_282 (cs + 1) fd rfm rt_ to_ rw_ wa ct rk rb cn br sm as_ go sh_ ir oa ob th ig sp_ ki tg of_ kp sf rs), (aI g fd 500 fb), (aI g to_ 25 tl), (aI g rk 7 (upd rk_ 1 r_268)), (aI g rb 36 rb_)]) [3, 4, 0, 1, 2] rfl
                  have hD := hD.sub (ws' := [(oX11 m0 tw ta (nI n) pl (nI k2_280) fb2_281 fw2_282 (cs + 1) fd rfm rt_ to_ rw_ wa ct rk rb cn br sm as_ go sh_ ir oa ob th ig sp_ ki tg of_ kp sf rs), (aI g fd 500 fb), (aI g to_ 25 tl), (aI g rk 7 (upd rk_ 1 r_268)), (aI g rb 36 rb_)]) [3, 4, 0, 1, 2] (by decide) rfl
                  exact he_rv hQ hx hb hr hlk hP hD hS dX11_rules_304 (Nat.le_of_ble_eq_true rfl) (Nat.le_of_ble_eq_true rfl) ((k2_280, fb2_281, fw2_282, cs + 1, upd rk_ 1 r_268, rb_)) (rfl) (by (try dsimp only); exact ⟨by (try dsimp only); omega, by (try dsimp only); omega, (hf_285.imp_right (fun h9 => ⟨h9.1, by have := h9.2.2; omega⟩)), fun h9 => ⟨cOk_upd hc (fun e9 => absurd e9 (by (try dsimp only); decide)) (fun e9 => absurd e9 (by (try dsimp only); decide)) (fun e9 => absurd e9 (by (try dsimp only); decide)), hbo⟩⟩)
              · exact absurd c_266 (by decide)
            · exact absurd c_265 (by decide)
          · exact absurd (by decide) c_258
        · refine lv_aload_n hx hb dX11_rules_171 rfl (lv_at hl 1 rfl) ?_
          refine lv_iconst (v := 3) hx hb dX11_rules_172 (by decide) ?_
          refine lv_aload_n hx hb dX11_rules_173 rfl (lv_at hl 1 rfl) ?_
          refine va_get (v := .int (nI k2_12)) (T := TX11) (N := 35) hx hb hts inX11 hown hK hP 3 rfl rfl 4 (by decide) f94 (fun _ h9 => h9) rfl dX11_rules_174 ?_
          refine he_cv (wc := [(oX11 m0 tw ta (nI n) pl (nI k2_12) 0 fw cs fd rfm rt_ to_ rw_ wa ct rk rb cn br sm as_ go sh_ ir oa ob th ig sp_ ki tg of_ kp sf rs), (aI g fd 500 fb)]) (wr := [(aI g to_ 25 tl), (aI g rk 7 rk_), (aI g rb 36 rb_)]) (va_runV (As := [.int 3, .int (nI k2_12)]) (rest := []) ⟨hx, hb, hml, hown, hts⟩ (h_X11_wrong l g m0 fd rfm rt_ to_ rw_ wa rk rb cn br sm as_ go sh_ ki tg of_ kp rs ta pl cs ct ir oa ob th ig sp_ sf tw n k2_12 0 fw fb 3 (nI k2_12) H.size) (cwV 2 hts gX11_rules_X11_wrong rfl rfl rfl (by decide +kernel) ⟨Nat.le_of_ble_eq_true rfl, Nat.le_of_ble_eq_true rfl⟩) (he_preV (wc := [(oX11 m0 tw ta (nI n) pl (nI k2_12) 0 fw cs fd rfm rt_ to_ rw_ wa ct rk rb cn br sm as_ go sh_ ir oa ob th ig sp_ ki tg of_ kp sf rs), (aI g fd 500 fb)]) hK hP hD hS hA hE [3, 4] rfl rfl 3 rfl rfl) rfl rfl hl.1 rfl (lv_room (Nat.le_of_ble_eq_true rfl)) dX11_rules_177 ⟨(Nat.le_of_ble_eq_true rfl), (Nat.le_of_ble_eq_true rfl)⟩) hP hD hS hA [3, 4] [0, 1, 2] rfl rfl rfl (by decide) (fun u_287 H locs h_288 hP hD hS => ?_)
          have hP : va_P g.1 vwCl [(aI g to_ 25 tl), (aI g rk 7 rk_), (aI g rb 36 rb_), (oX11 m0 tw ta (nI n) pl (nI k2_12) (wrF 0 3) (wrA 0 fw (nI k2_12)) cs fd rfm rt_ to_ rw_ wa ct rk rb cn br sm as_ go sh_ ir oa ob th ig sp_ ki tg of_ kp sf rs), (aI g fd 500 fb)] H := hP
          have hD : va_D A [(aI g to_ 25 tl), (aI g rk 7 rk_), (aI g rb 36 rb_), (oX11 m0 tw ta (nI n) pl (nI k2_12) (wrF 0 3) (wrA 0 fw (nI k2_12)) cs fd rfm rt_ to_ rw_ wa ct rk rb cn br sm as_ go sh_ ir oa ob th ig sp_ ki tg of_ kp sf rs), (aI g fd 500 fb)] := hD
          refine lv_aload_n hx hb dX11_rules_180 rfl (lv_at hl 1 rfl) ?_
          refine va_get (v := .int (wrF 0 3)) (T := TX11) (N := 35) hx hb hts inX11 hown hK hP 3 rfl rfl 5 (by decide) f101 (fun _ h9 => h9) rfl dX11_rules_181 ?_
          refine lv_if_eq (tgt := 188) hx hb dX11_rules_184 (by decide) (fun c_289 => ?_) (fun c_289 => ?_)
          · exact absurd c_289 (by decide)
          · have hP := hP.sub (ws' := [(oX11 m0 tw ta (nI n) pl (nI k2_12) (wrF 0 3) (wrA 0 fw (nI k2_12)) cs fd rfm rt_ to_ rw_ wa ct rk rb cn br sm as_ go sh_ ir oa ob th ig sp_ ki tg of_ kp sf rs), (aI g fd 500 fb), (aI g to_ 25 tl), (aI g rk 7 rk_), (aI g rb 36 rb_)]) [3, 4, 0, 1, 2] rfl
            have hD := hD.sub (ws' := [(oX11 m0 tw ta (nI n) pl (nI k2_12) (wrF 0 3) (wrA 0 fw (nI k2_12)) cs fd rfm rt_ to_ rw_ wa ct rk rb cn br sm as_ go sh_ ir oa ob th ig sp_ ki tg of_ kp sf rs), (aI g fd 500 fb), (aI g to_ 25 tl), (aI g rk 7 rk_), (aI g rb 36 rb_)]) [3, 4, 0, 1, 2] (by decide) rfl
            exact he_rv hQ hx hb hr hlk hP hD hS dX11_rules_187 (Nat.le_of_ble_eq_true rfl) (Nat.le_of_ble_eq_true rfl) ((k2_12, wrF 0 3, wrA 0 fw (nI k2_12), cs, rk_, rb_)) (rfl) (by (try dsimp only); exact ⟨by (try dsimp only); omega, by (try dsimp only); omega, Or.inl (by (try dsimp only); decide), fun h9 => absurd h9 (by (try dsimp only); decide)⟩)
      · exact absurd c_256 (by decide)
  · refine lv_iconst (v := 0) hx hb dX11_rules_15 (by decide) ?_
    refine lv_goto (tgt := 144) hx hb dX11_rules_16 (by decide) ?_
    refine lv_istore_n (lv' := [(1, .int 0), (0, .ref m0)]) hx hb dX11_rules_144 rfl hl (by decide) rfl (fun ls hl => ?_)
    refine lv_iload_n hx hb dX11_rules_145 rfl (lv_at hl 0 rfl) ?_
    refine lv_iconst (v := (-1)) hx hb dX11_rules_146 (by decide) ?_
    refine lv_icmp_ne (tgt := 162) hx hb dX11_rules_147 (by decide) (fun c_290 => ?_) (fun c_290 => ?_)
    · refine lv_aload_n hx hb dX11_rules_162 rfl (lv_at hl 1 rfl) ?_
      refine va_get (v := .int cs) (T := TX11) (N := 35) hx hb hts inX11 hown hK hP 3 rfl rfl 7 (by decide) f131 (fun _ h9 => h9) rfl dX11_rules_163 ?_
      refine lv_bipush (v := 20) hx hb dX11_rules_166 (by decide) ?_
      refine lv_icmp_ne (tgt := 180) hx hb dX11_rules_168 (by decide) (fun c_291 => ?_) (fun c_291 => ?_)
      · refine lv_aload_n hx hb dX11_rules_180 rfl (lv_at hl 1 rfl) ?_
        refine va_get (v := .int 0) (T := TX11) (N := 35) hx hb hts inX11 hown hK hP 3 rfl rfl 5 (by decide) f101 (fun _ h9 => h9) rfl dX11_rules_181 ?_
        refine lv_if_eq (tgt := 188) hx hb dX11_rules_184 (by decide) (fun c_292 => ?_) (fun c_292 => ?_)
        · refine lv_aload_n hx hb dX11_rules_188 rfl (lv_at hl 1 rfl) ?_
          refine he_cv (wc := [(oX11 m0 tw ta (nI n) pl (nI k2_4) 0 fw cs fd rfm rt_ to_ rw_ wa ct rk rb cn br sm as_ go sh_ ir oa ob th ig sp_ ki tg of_ kp sf rs), (aI g fd 500 fb)]) (wr := [(aI g to_ 25 tl), (aI g rk 7 rk_), (aI g rb 36 rb_)]) (va_runV (As := []) (rest := []) ⟨hx, hb, hml, hown, hts⟩ (h_X11_skipWord l g m0 fd rfm rt_ to_ rw_ wa rk rb cn br sm as_ go sh_ ki tg of_ kp rs ta pl cs ct ir oa ob th ig sp_ sf tw n k2_4 0 fw fb (by first | assumption | decide | omega) (by first | assumption | decide | omega) H.size) (cwV 0 hts gX11_rules_X11_skipWord rfl rfl rfl (by decide +kernel) ⟨Nat.le_of_ble_eq_true rfl, Nat.le_of_ble_eq_true rfl⟩) (he_preV (wc := [(oX11 m0 tw ta (nI n) pl (nI k2_4) 0 fw cs fd rfm rt_ to_ rw_ wa ct rk rb cn br sm as_ go sh_ ir oa ob th ig sp_ ki tg of_ kp sf rs), (aI g fd 500 fb)]) hK hP hD hS hA hE [3, 4] rfl rfl 3 rfl rfl) rfl rfl hl.1 rfl (lv_room (Nat.le_of_ble_eq_true rfl)) dX11_rules_189 ⟨(Nat.le_of_ble_eq_true rfl), (Nat.le_of_ble_eq_true rfl)⟩) hP hD hS hA [3, 4] [0, 1, 2] rfl rfl rfl (by decide) (fun u_294 H locs h_295 hP hD hS => ?_)
          obtain ⟨k2_296, rfl⟩ : ∃ z, z = u_294 := ⟨_, rfl⟩
          try dsimp only at h_295
          obtain ⟨hf_297, hf_298⟩ := h_295
          have hP : va_P g.1 vwCl [(aI g to_ 25 tl), (aI g rk 7 rk_), (aI g rb 36 rb_), (oX11 m0 tw ta (nI n) pl (nI k2_296) 0 fw cs fd rfm rt_ to_ rw_ wa ct rk rb cn br sm as_ go sh_ ir oa ob th ig sp_ ki tg of_ kp sf rs), (aI g fd 500 fb)] H := hP
          have hD : va_D A [(aI g to_ 25 tl), (aI g rk 7 rk_), (aI g rb 36 rb_), (oX11 m0 tw ta (nI n) pl (nI k2_296) 0 fw cs fd rfm rt_ to_ rw_ wa ct rk rb cn br sm as_ go sh_ ir oa ob th ig sp_ ki tg of_ kp sf rs), (aI g fd 500 fb)] := hD
          refine lv_aload_n hx hb dX11_rules_192 rfl (lv_at hl 1 rfl) ?_
          refine lv_dup hx hb dX11_rules_193 rfl ?_
          refine va_get (v := .int cs) (T := TX11) (N := 35) hx hb hts inX11 hown hK hP 3 rfl rfl 7 (by decide) f131 (fun _ h9 => h9) rfl dX11_rules_194 ?_
          refine lv_iconst (v := 1) hx hb dX11_rules_197 (by decide) ?_
          refine lv_iadd hx hb dX11_rules_198 ?_
          refine va_put (v := .int (cs + 1)) (ty := .int) (T := TX11) (N := 35) hx hb hts inX11 tyX11 tyX11_ok nmX11 hown hK hP hD hS 3 rfl rfl 7 (by decide) f131 (fun _ h9 => h9) rfl (by decide +kernel) rfl rfl (Nat.le_of_ble_eq_true rfl) dX11_rules_199 (fun H locs hP hD hS => ?_)
          have hP : va_P g.1 vwCl [(aI g to_ 25 tl), (aI g rk 7 rk_), (aI g rb 36 rb_), (oX11 m0 tw ta (nI n) pl (nI k2_296) 0 fw (cs + 1) fd rfm rt_ to_ rw_ wa ct rk rb cn br sm as_ go sh_ ir oa ob th ig sp_ ki tg of_ kp sf rs), (aI g fd 500 fb)] H := hP
          have hD : va_D A [(aI g to_ 25 tl), (aI g rk 7 rk_), (aI g rb 36 rb_), (oX11 m0 tw ta (nI n) pl (nI k2_296) 0 fw (cs + 1) fd rfm rt_ to_ rw_ wa ct rk rb cn br sm as_ go sh_ ir oa ob th ig sp_ ki tg of_ kp sf rs), (aI g fd 500 fb)] := hD
          refine lv_iload_n hx hb dX11_rules_202 rfl (lv_at hl 0 rfl) ?_
          refine lv_bipush (v := 6) hx hb dX11_rules_203 (by decide) ?_
          refine lv_icmp_ne (tgt := 247) hx hb dX11_rules_205 (by decide) (fun c_299 => ?_) (fun c_299 => ?_)
          · refine lv_aload_n hx hb dX11_rules_247 rfl (lv_at hl 1 rfl) ?_
            refine va_get (v := .ref rk) (T := TX11) (N := 35) hx hb hts inX11 hown hK hP 3 rfl rfl 15 (by decide) f34 (fun _ h9 => h9) rfl dX11_rules_248 ?_
            refine lv_iload_n hx hb dX11_rules_251 rfl (lv_at hl 0 rfl) ?_
            refine lv_aload_n hx hb dX11_rules_252 rfl (lv_at hl 1 rfl) ?_
            refine lv_iload_n hx hb dX11_rules_253 rfl (lv_at hl 0 rfl) ?_
            refine lv_iconst (v := 5) hx hb dX11_rules_254 (by decide) ?_
            refine lv_icmp_ne (tgt := 262) hx hb dX11_rules_255 (by decide) (fun c_300 => ?_) (fun c_300 => ?_)
            · refine lv_iconst (v := 0) hx hb dX11_rules_262 (by decide) ?_
              refine lv_iload_n hx hb dX11_rules_263 rfl (lv_at hl 0 rfl) ?_
              refine lv_iconst (v := 2) hx hb dX11_rules_264 (by decide) ?_
              refine lv_icmp_ge (tgt := 274) hx hb dX11_rules_265 (by decide) (fun c_301 => ?_) (fun c_301 => ?_)
              · exact absurd c_301 (by decide)
              · refine lv_sipush (v := 999) hx hb dX11_rules_268 (by decide) ?_
                refine lv_goto (tgt := 296) hx hb dX11_rules_271 (by decide) ?_
                refine he_ci (wc := [(oX11 m0 tw ta (nI n) pl (nI k2_296) 0 fw (cs + 1) fd rfm rt_ to_ rw_ wa ct rk rb cn br sm as_ go sh_ ir oa ob th ig sp_ ki tg of_ kp sf rs), (aI g fd 500 fb)]) (wr := [(aI g to_ 25 tl), (aI g rk 7 rk_), (aI g rb 36 rb_)]) (va_runV (As := [.int 0, .int 999]) (rest := [.int 0, .ref rk]) ⟨hx, hb, hml, hown, hts⟩ (h_X11_number l g m0 fd rfm rt_ to_ rw_ wa rk rb cn br sm as_ go sh_ ki tg of_ kp rs ta pl (cs + 1) ct ir oa ob th ig sp_ sf tw n k2_296 0 fw fb 0 999 (by first | assumption | decide | omega) (by first | assumption | decide | omega) H.size) (cwV 2 hts gX11_rules_X11_number rfl rfl rfl (by decide +kernel) ⟨Nat.le_of_ble_eq_true rfl, Nat.le_of_ble_eq_true rfl⟩) (he_preV (wc := [(oX11 m0 tw ta (nI n) pl (nI k2_296) 0 fw (cs + 1) fd rfm rt_ to_ rw_ wa ct rk rb cn br sm as_ go sh_ ir oa ob th ig sp_ ki tg of_ kp sf rs), (aI g fd 500 fb)]) hK hP hD hS hA hE [3, 4] rfl rfl 3 rfl rfl) rfl rfl hl.1 rfl (lv_room (Nat.le_of_ble_eq_true rfl)) dX11_rules_296 ⟨(Nat.le_of_ble_eq_true rfl), (Nat.le_of_ble_eq_true rfl)⟩) hP hD hS hA [3, 4] [0, 1, 2] rfl rfl rfl (by decide) (fun r_302 u_303 H locs h_304 hP hD hS => ?_)
                obtain ⟨k2_305, fb2_306, fw2_307⟩ := u_303
                try dsimp only at h_304
                obtain ⟨hf_308, hf_309, hf_310⟩ := h_304
                have hP : va_P g.1 vwCl [(aI g to_ 25 tl), (aI g rk 7 rk_), (aI g rb 36 rb_), (oX11 m0 tw ta (nI n) pl (nI k2_305) fb2_306 fw2_307 (cs + 1) fd rfm rt_ to_ rw_ wa ct rk rb cn br sm as_ go sh_ ir oa ob th ig sp_ ki tg of_ kp sf rs), (aI g fd 500 fb)] H := hP
                have hD : va_D A [(aI g to_ 25 tl), (aI g rk 7 rk_), (aI g rb 36 rb_), (oX11 m0 tw ta (nI n) pl (nI k2_305) fb2_306 fw2_307 (cs + 1) fd rfm rt_ to_ rw_ wa ct rk rb cn br sm as_ go sh_ ir oa ob th ig sp_ ki tg of_ kp sf rs), (aI g fd 500 fb)] := hD
                refine he_iast hx hb hK hP hD hS 1 rfl (0) (by decide) (by decide) (by first | decide | assumption) dX11_rules_299 (fun H locs hP hD hS => ?_)
                have hP : va_P g.1 vwCl [(aI g to_ 25 tl), (aI g rk 7 (upd rk_ 0 r_302)), (aI g rb 36 rb_), (oX11 m0 tw ta (nI n) pl (nI k2_305) fb2_306 fw2_307 (cs + 1) fd rfm rt_ to_ rw_ wa ct rk rb cn br sm as_ go sh_ ir oa ob th ig sp_ ki tg of_ kp sf rs), (aI g fd 500 fb)] H := hP
                have hD : va_D A [(aI g to_ 25 tl), (aI g rk 7 (upd rk_ 0 r_302)), (aI g rb 36 rb_), (oX11 m0 tw ta (nI n) pl (nI k2_305) fb2_306 fw2_307 (cs + 1) fd rfm rt_ to_ rw_ wa ct rk rb cn br sm as_ go sh_ ir oa ob th ig sp_ ki tg of_ kp sf rs), (aI g fd 500 fb)] := hD
                refine lv_aload_n hx hb dX11_rules_300 rfl (lv_at hl 1 rfl) ?_
                refine he_cv (wc := [(oX11 m0 tw ta (nI n) pl (nI k2_305) fb2_306 fw2_307 (cs + 1) fd rfm rt_ to_ rw_ wa ct rk rb cn br sm as_ go sh_ ir oa ob th ig sp_ ki tg of_ kp sf rs), (aI g fd 500 fb)]) (wr := [(aI g to_ 25 tl), (aI g rk 7 (upd rk_ 0 r_302)), (aI g rb 36 rb_)]) (va_runV (As := []) (rest := []) ⟨hx, hb, hml, hown, hts⟩ (h_X11_closes l g m0 fd rfm rt_ to_ rw_ wa rk rb cn br sm as_ go sh_ ki tg of_ kp rs ta pl (cs + 1) ct ir oa ob th ig sp_ sf tw n k2_305 fb2_306 fw2_307 fb (by first | assumption | decide | omega) (by first | assumption | decide | omega) H.size) (cwV 0 hts gX11_rules_X11_closes rfl rfl rfl (by decide +kernel) ⟨Nat.le_of_ble_eq_true rfl, Nat.le_of_ble_eq_true rfl⟩) (he_preV (wc := [(oX11 m0 tw ta (nI n) pl (nI k2_305) fb2_306 fw2_307 (cs + 1) fd rfm rt_ to_ rw_ wa ct rk rb cn br sm as_ go sh_ ir oa ob th ig sp_ ki tg of_ kp sf rs), (aI g fd 500 fb)]) hK hP hD hS hA hE [3, 4] rfl rfl 3 rfl rfl) rfl rfl hl.1 rfl (lv_room (Nat.le_of_ble_eq_true rfl)) dX11_rules_301 ⟨(Nat.le_of_ble_eq_true rfl), (Nat.le_of_ble_eq_true rfl)⟩) hP hD hS hA [3, 4] [0, 1, 2] rfl rfl rfl (by decide) (fun u_312 H locs h_313 hP hD hS => ?_)
                obtain ⟨k2_314, fb2_315, fw2_316⟩ := u_312
                try dsimp only at h_313
                obtain ⟨hf_317, hf_318, hf_319⟩ := h_313
                have hP : va_P g.1 vwCl [(aI g to_ 25 tl), (aI g rk 7 (upd rk_ 0 r_302)), (aI g rb 36 rb_), (oX11 m0 tw ta (nI n) pl (nI k2_314) fb2_315 fw2_316 (cs + 1) fd rfm rt_ to_ rw_ wa ct rk rb cn br sm as_ go sh_ ir oa ob th ig sp_ ki tg of_ kp sf rs), (aI g fd 500 fb)] H := hP
                have hD : va_D A [(aI g to_ 25 tl), (aI g rk 7 (upd rk_ 0 r_302)), (aI g rb 36 rb_), (oX11 m0 tw ta (nI n) pl (nI k2_314) fb2_315 fw2_316 (cs + 1) fd rfm rt_ to_ rw_ wa ct rk rb cn br sm as_ go sh_ ir oa ob th ig sp_ ki tg of_ kp sf rs), (aI g fd 500 fb)] := hD
                have hP := hP.sub (ws' := [(oX11 m0 tw ta (nI n) pl (nI k2_314) fb2_315 fw2_316 (cs + 1) fd rfm rt_ to_ rw_ wa ct rk rb cn br sm as_ go sh_ ir oa ob th ig sp_ ki tg of_ kp sf rs), (aI g fd 500 fb), (aI g to_ 25 tl), (aI g rk 7 (upd rk_ 0 r_302)), (aI g rb 36 rb_)]) [3, 4, 0, 1, 2] rfl
                have hD := hD.sub (ws' := [(oX11 m0 tw ta (nI n) pl (nI k2_314) fb2_315 fw2_316 (cs + 1) fd rfm rt_ to_ rw_ wa ct rk rb cn br sm as_ go sh_ ir oa ob th ig sp_ ki tg of_ kp sf rs), (aI g fd 500 fb), (aI g to_ 25 tl), (aI g rk 7 (upd rk_ 0 r_302)), (aI g rb 36 rb_)]) [3, 4, 0, 1, 2] (by decide) rfl
                exact he_rv hQ hx hb hr hlk hP hD hS dX11_rules_304 (Nat.le_of_ble_eq_true rfl) (Nat.le_of_ble_eq_true rfl) ((k2_314, fb2_315, fw2_316, cs + 1, upd rk_ 0 r_302, rb_)) (rfl) (by (try dsimp only); exact ⟨by (try dsimp only); omega, by (try dsimp only); omega, (hf_319.imp_right (fun h9 => ⟨h9.1, by have := h9.2.2; omega⟩)), fun h9 => ⟨cOk_upd hc (fun e9 => absurd e9 (by (try dsimp only); decide)) (fun e9 => absurd e9 (by (try dsimp only); decide)) (fun e9 => absurd e9 (by (try dsimp only); decide)), hbo⟩⟩)
            · exact absurd c_300 (by decide)
          · exact absurd c_299 (by decide)
        · exact absurd (by decide) c_292
      · refine lv_aload_n hx hb dX11_rules_171 rfl (lv_at hl 1 rfl) ?_
        refine lv_iconst (v := 3) hx hb dX11_rules_172 (by decide) ?_
        refine lv_aload_n hx hb dX11_rules_173 rfl (lv_at hl 1 rfl) ?_
        refine va_get (v := .int (nI k2_4)) (T := TX11) (N := 35) hx hb hts inX11 hown hK hP 3 rfl rfl 4 (by decide) f94 (fun _ h9 => h9) rfl dX11_rules_174 ?_
        refine he_cv (wc := [(oX11 m0 tw ta (nI n) pl (nI k2_4) 0 fw cs fd rfm rt_ to_ rw_ wa ct rk rb cn br sm as_ go sh_ ir oa ob th ig sp_ ki tg of_ kp sf rs), (aI g fd 500 fb)]) (wr := [(aI g to_ 25 tl), (aI g rk 7 rk_), (aI g rb 36 rb_)]) (va_runV (As := [.int 3, .int (nI k2_4)]) (rest := []) ⟨hx, hb, hml, hown, hts⟩ (h_X11_wrong l g m0 fd rfm rt_ to_ rw_ wa rk rb cn br sm as_ go sh_ ki tg of_ kp rs ta pl cs ct ir oa ob th ig sp_ sf tw n k2_4 0 fw fb 3 (nI k2_4) H.size) (cwV 2 hts gX11_rules_X11_wrong rfl rfl rfl (by decide +kernel) ⟨Nat.le_of_ble_eq_true rfl, Nat.le_of_ble_eq_true rfl⟩) (he_preV (wc := [(oX11 m0 tw ta (nI n) pl (nI k2_4) 0 fw cs fd rfm rt_ to_ rw_ wa ct rk rb cn br sm as_ go sh_ ir oa ob th ig sp_ ki tg of_ kp sf rs), (aI g fd 500 fb)]) hK hP hD hS hA hE [3, 4] rfl rfl 3 rfl rfl) rfl rfl hl.1 rfl (lv_room (Nat.le_of_ble_eq_true rfl)) dX11_rules_177 ⟨(Nat.le_of_ble_eq_true rfl), (Nat.le_of_ble_eq_true rfl)⟩) hP hD hS hA [3, 4] [0, 1, 2] rfl rfl rfl (by decide) (fun u_321 H locs h_322 hP hD hS => ?_)
        have hP : va_P g.1 vwCl [(aI g to_ 25 tl), (aI g rk 7 rk_), (aI g rb 36 rb_), (oX11 m0 tw ta (nI n) pl (nI k2_4) (wrF 0 3) (wrA 0 fw (nI k2_4)) cs fd rfm rt_ to_ rw_ wa ct rk rb cn br sm as_ go sh_ ir oa ob th ig sp_ ki tg of_ kp sf rs), (aI g fd 500 fb)] H := hP
        have hD : va_D A [(aI g to_ 25 tl), (aI g rk 7 rk_), (aI g rb 36 rb_), (oX11 m0 tw ta (nI n) pl (nI k2_4) (wrF 0 3) (wrA 0 fw (nI k2_4)) cs fd rfm rt_ to_ rw_ wa ct rk rb cn br sm as_ go sh_ ir oa ob th ig sp_ ki tg of_ kp sf rs), (aI g fd 500 fb)] := hD
        refine lv_aload_n hx hb dX11_rules_180 rfl (lv_at hl 1 rfl) ?_
        refine va_get (v := .int (wrF 0 3)) (T := TX11) (N := 35) hx hb hts inX11 hown hK hP 3 rfl rfl 5 (by decide) f101 (fun _ h9 => h9) rfl dX11_rules_181 ?_
        refine lv_if_eq (tgt := 188) hx hb dX11_rules_184 (by decide) (fun c_323 => ?_) (fun c_323 => ?_)
        · exact absurd c_323 (by decide)
        · have hP := hP.sub (ws' := [(oX11 m0 tw ta (nI n) pl (nI k2_4) (wrF 0 3) (wrA 0 fw (nI k2_4)) cs fd rfm rt_ to_ rw_ wa ct rk rb cn br sm as_ go sh_ ir oa ob th ig sp_ ki tg of_ kp sf rs), (aI g fd 500 fb), (aI g to_ 25 tl), (aI g rk 7 rk_), (aI g rb 36 rb_)]) [3, 4, 0, 1, 2] rfl
          have hD := hD.sub (ws' := [(oX11 m0 tw ta (nI n) pl (nI k2_4) (wrF 0 3) (wrA 0 fw (nI k2_4)) cs fd rfm rt_ to_ rw_ wa ct rk rb cn br sm as_ go sh_ ir oa ob th ig sp_ ki tg of_ kp sf rs), (aI g fd 500 fb), (aI g to_ 25 tl), (aI g rk 7 rk_), (aI g rb 36 rb_)]) [3, 4, 0, 1, 2] (by decide) rfl
          exact he_rv hQ hx hb hr hlk hP hD hS dX11_rules_187 (Nat.le_of_ble_eq_true rfl) (Nat.le_of_ble_eq_true rfl) ((k2_4, wrF 0 3, wrA 0 fw (nI k2_4), cs, rk_, rb_)) (rfl) (by (try dsimp only); exact ⟨by (try dsimp only); omega, by (try dsimp only); omega, Or.inl (by (try dsimp only); decide), fun h9 => absurd h9 (by (try dsimp only); decide)⟩)
    · exact absurd c_290 (by decide)
set_option maxHeartbeats 4000000 in
set_option maxRecDepth 100000 in
theorem h_X11_contract (l : Launch) (g : he_G) (m0 : Nat) (fd : Nat) (rfm : Nat) (rt_ : Nat) (to_ : Nat) (rw_ : Nat) (wa : Nat) (rk : Nat) (rb : Nat) (cn : Nat) (br : Nat) (sm : Nat) (as_ : Nat) (go : Nat) (sh_ : Nat) (ki : Nat) (tg : Nat) (of_ : Nat) (kp : Nat) (rs : Nat) (sz_ : Int32) (pl : Int32) (at_ : Int32) (fa : Int32) (fw : Int32) (cs : Int32) (ir : Int32) (oa : Int32) (ob : Int32) (th : Int32) (ig : Int32) (sp_ : Int32) (sf : Int32) (tw : Int32) (ta : Nat) (nt : Nat) (n : Nat) (fb : Nat → Int32) (tl : Nat → Int32) (rk_ : Nat → Int32) (rb_ : Nat → Int32) (w : Nat) (L : List Nat) (ln : Nat → Nat) (M : Nat → Nat → Int32) (r3 : Nat → Nat) (r4 : Nat → Nat) (hta : ta ≤ 500) (hnt : n ≤ ta) (hn2 : n ≤ 200) (hct : nt ≤ 6) (htl : tl 0 = nI w) (hw6 : w ≤ 6) (F_r3 : ∀ i, i < 7 → r3 i ∈ L ∧ ln (r3 i) = 7 ∧ True) (F_r4 : ∀ i, i < 7 → r4 i ∈ L ∧ ln (r4 i) = 36 ∧ True) (D_r3_r4 : ∀ i j, i < 7 → j < 7 → r3 i ≠ r4 j) : he_I l yX11_contract wsX11_contract 5 112 0 0 g [.ref m0, .int (nI n)] ([(oX11 m0 tw (nI ta) sz_ pl at_ fa fw cs fd rfm rt_ to_ rw_ wa (nI nt) rk rb cn br sm as_ go sh_ ir oa ob th ig sp_ ki tg of_ kp sf rs), (aI g fd 500 fb), (aI g to_ 25 tl), (aI g rk 7 rk_), (aI g rb 36 rb_), (aM g cn 7 (he_ro 7 r3)), (aM g br 7 (he_ro 7 r4))] ++ he_pl g L ln M) (fun (r : Int32) (u : Nat × Nat × Int32 × Int32 × Int32 × Int32 × (Nat → Int32) × (Nat → Int32) × (Nat → Nat → Int32)) => u.2.1 ≤ n ∧ ((u.1 = nt ∧ u.2.2.2.2.2.2.2.2 = M ∧ ((nt = 6 ∧ r = -1) ∨ (nt < 6 ∧ ¬ u.2.2.1 = 0 ∧ r = u.2.2.1 - 10))) ∨ (nt < 6 ∧ u.1 = nt + 1 ∧ cOk (u.2.2.2.2.2.2.2.2 (r3 nt)) ∧ bOk (u.2.2.2.2.2.2.2.2 (r4 nt)) ∧ (∀ a, a ≠ r3 nt → a ≠ r4 nt → u.2.2.2.2.2.2.2.2 a = M a) ∧ u.2.2.1 = 0 ∧ r = nI nt))) (fun (u : Nat × Nat × Int32 × Int32 × Int32 × Int32 × (Nat → Int32) × (Nat → Int32) × (Nat → Nat → Int32)) => [(oX11 m0 0 0 (nI n) u.2.2.2.2.2.1 (nI u.2.1) u.2.2.1 u.2.2.2.1 u.2.2.2.2.1 fd rfm rt_ to_ rw_ wa (nI u.1) rk rb cn br sm as_ go sh_ ir oa ob th ig sp_ ki tg of_ kp sf rs), (aI g fd 500 fb), (aI g to_ 25 tl), (aI g rk 7 u.2.2.2.2.2.2.1), (aI g rb 36 u.2.2.2.2.2.2.2.1), (aM g cn 7 (he_ro 7 r3)), (aM g br 7 (he_ro 7 r4))] ++ he_pl g L ln u.2.2.2.2.2.2.2.2) := by
  refine he_begin (l := l) (g := g) (y := yX11_contract) (wl := wsX11_contract) (fr := 5) (lo := 112) (mc := 0) (ms := 0) (av := [.ref m0, .int (nI n)]) (ws := ([(oX11 m0 tw (nI ta) sz_ pl at_ fa fw cs fd rfm rt_ to_ rw_ wa (nI nt) rk rb cn br sm as_ go sh_ ir oa ob th ig sp_ ki tg of_ kp sf rs), (aI g fd 500 fb), (aI g to_ 25 tl), (aI g rk 7 rk_), (aI g rb 36 rb_), (aM g cn 7 (he_ro 7 r3)), (aM g br 7 (he_ro 7 r4))] ++ he_pl g L ln M)) (cc := cX11_contract) (maxL := 3) (ret := (some .int)) (fun A => va_Qi (fun (r : Int32) (u : Nat × Nat × Int32 × Int32 × Int32 × Int32 × (Nat → Int32) × (Nat → Int32) × (Nat → Nat → Int32)) => u.2.1 ≤ n ∧ ((u.1 = nt ∧ u.2.2.2.2.2.2.2.2 = M ∧ ((nt = 6 ∧ r = -1) ∨ (nt < 6 ∧ ¬ u.2.2.1 = 0 ∧ r = u.2.2.1 - 10))) ∨ (nt < 6 ∧ u.1 = nt + 1 ∧ cOk (u.2.2.2.2.2.2.2.2 (r3 nt)) ∧ bOk (u.2.2.2.2.2.2.2.2 (r4 nt)) ∧ (∀ a, a ≠ r3 nt → a ≠ r4 nt → u.2.2.2.2.2.2.2.2 a = M a) ∧ u.2.2.1 = 0 ∧ r = nI nt))) (fun u t => he_post g A ((fun (u : Nat × Nat × Int32 × Int32 × Int32 × Int32 × (Nat → Int32) × (Nat → Int32) × (Nat → Nat → Int32)) => [(oX11 m0 0 0 (nI n) u.2.2.2.2.2.1 (nI u.2.1) u.2.2.1 u.2.2.2.1 u.2.2.2.2.1 fd rfm rt_ to_ rw_ wa (nI u.1) rk rb cn br sm as_ go sh_ ir oa ob th ig sp_ ki tg of_ kp sf rs), (aI g fd 500 fb), (aI g to_ 25 tl), (aI g rk 7 u.2.2.2.2.2.2.1), (aI g rb 36 u.2.2.2.2.2.2.2.1), (aM g cn 7 (he_ro 7 r3)), (aM g br 7 (he_ro 7 r4))] ++ he_pl g L ln u.2.2.2.2.2.2.2.2) u) t) A) (by decide) rfl (Nat.le_of_ble_eq_true rfl) ?_
  intro p e s m args below meth c A ls H locs Q hQ hB
  obtain ⟨hx, hb, hr, hml, hown, hts, hlk, hin, hP, hK, hD, hS, hA, hE, hl⟩ := hB
  have hl : lv_has ls 3 [(0, .ref m0), (1, .int (nI n))] := hl
  have f85 := hts (.fieldLink RX11 85 "HiredEnemyModel" "thrown" "I") (iwoX11_contract (k := 0) rfl)
  have inX11 : ∀ w ∈ wsX110, w ∈ wsX11_contract := innX11_contract_X11
  have f88 := hts (.fieldLink RX11 88 "HiredEnemyModel" "tape" "I") (iwoX11_contract (k := 1) rfl)
  have f9 := hts (.fieldLink RX11 9 "HiredEnemyModel" "place" "I") (iwoX11_contract (k := 2) rfl)
  have f162 := hts (.fieldLink RX11 162 "HiredEnemyModel" "contracts" "I") (iwoX11_contract (k := 3) rfl)
  have f101 := hts (.fieldLink RX11 101 "HiredEnemyModel" "fault" "I") (iwoX11_contract (k := 6) rfl)
  have f104 := hts (.fieldLink RX11 104 "HiredEnemyModel" "faultAt" "I") (iwoX11_contract (k := 9) rfl)
  have f94 := hts (.fieldLink RX11 94 "HiredEnemyModel" "at" "I") (iwoX11_contract (k := 7) rfl)
  have f91 := hts (.fieldLink RX11 91 "HiredEnemyModel" "size" "I") (iwoX11_contract (k := 8) rfl)
  have f34 := hts (.fieldLink RX11 34 "HiredEnemyModel" "readContract" "[I") (iwoX11_contract (k := 4) rfl)
  have f40 := hts (.fieldLink RX11 40 "HiredEnemyModel" "contract" "[[I") (iwoX11_contract (k := 11) rfl)
  have f43 := hts (.fieldLink RX11 43 "HiredEnemyModel" "breach" "[[I") (iwoX11_contract (k := 10) rfl)
  have f37 := hts (.fieldLink RX11 37 "HiredEnemyModel" "readBreach" "[I") (iwoX11_contract (k := 5) rfl)
  refine lv_aload_n hx hb dX11_contract_0 rfl (lv_at hl 0 rfl) ?_
  refine lv_iconst (v := 0) hx hb dX11_contract_1 (by decide) ?_
  refine va_put (v := .int 0) (ty := .int) (T := TX11) (N := 35) hx hb hts inX11 tyX11 tyX11_ok nmX11 hown hK hP hD hS 0 rfl rfl 0 (by decide) f85 (fun _ h9 => h9) rfl (by decide +kernel) rfl rfl (Nat.le_of_ble_eq_true rfl) dX11_contract_2 (fun H locs hP hD hS => ?_)
  have hP : va_P g.1 vwCl ([(oX11 m0 0 (nI ta) sz_ pl at_ fa fw cs fd rfm rt_ to_ rw_ wa (nI nt) rk rb cn br sm as_ go sh_ ir oa ob th ig sp_ ki tg of_ kp sf rs), (aI g fd 500 fb), (aI g to_ 25 tl), (aI g rk 7 rk_), (aI g rb 36 rb_), (aM g cn 7 (he_ro 7 r3)), (aM g br 7 (he_ro 7 r4))] ++ he_pl g L ln M) H := hP
  have hD : va_D A ([(oX11 m0 0 (nI ta) sz_ pl at_ fa fw cs fd rfm rt_ to_ rw_ wa (nI nt) rk rb cn br sm as_ go sh_ ir oa ob th ig sp_ ki tg of_ kp sf rs), (aI g fd 500 fb), (aI g to_ 25 tl), (aI g rk 7 rk_), (aI g rb 36 rb_), (aM g cn 7 (he_ro 7 r3)), (aM g br 7 (he_ro 7 r4))] ++ he_pl g L ln M) := hD
  refine lv_aload_n hx hb dX11_contract_5 rfl (lv_at hl 0 rfl) ?_
  refine lv_iload_n hx hb dX11_contract_6 rfl (lv_at hl 1 rfl) ?_
  refine lv_iconst (v := 0) hx hb dX11_contract_7 (by decide) ?_
  refine lv_aload_n hx hb dX11_contract_8 rfl (lv_at hl 0 rfl) ?_
  refine va_get (v := .int (nI ta)) (T := TX11) (N := 35) hx hb hts inX11 hown hK hP 0 rfl rfl 1 (by decide) f88 (fun _ h9 => h9) rfl dX11_contract_9 ?_
  refine he_ci (wc := []) (wr := ([(oX11 m0 0 (nI ta) sz_ pl at_ fa fw cs fd rfm rt_ to_ rw_ wa (nI nt) rk rb cn br sm as_ go sh_ ir oa ob th ig sp_ ki tg of_ kp sf rs), (aI g fd 500 fb), (aI g to_ 25 tl), (aI g rk 7 rk_), (aI g rb 36 rb_), (aM g cn 7 (he_ro 7 r3)), (aM g br 7 (he_ro 7 r4))] ++ (he_pl g L ln M))) (va_runS (As := [.int (nI n), .int 0, .int (nI ta)]) (rest := [.ref m0]) ⟨hx, hb, hml, hown, hts⟩ (c_X11_in l g (nI n) 0 (nI ta) H.size) (va_cwS 3 hts gX11_contract_X11_in rfl rfl rfl (by decide +kernel) ⟨Nat.le_of_ble_eq_true rfl, Nat.le_of_ble_eq_true rfl⟩) (he_preS (wc := []) hK hP hD hS hA hE [] rfl rfl) rfl rfl hl.1 rfl (lv_room (Nat.le_of_ble_eq_true rfl)) dX11_contract_12 ⟨(Nat.le_of_ble_eq_true rfl), (Nat.le_of_ble_eq_true rfl)⟩) hP hD hS hA [] (he_is [0, 1, 2, 3, 4, 5, 6] [(oX11 m0 0 (nI ta) sz_ pl at_ fa fw cs fd rfm rt_ to_ rw_ wa (nI nt) rk rb cn br sm as_ go sh_ ir oa ob th ig sp_ ki tg of_ kp sf rs), (aI g fd 500 fb), (aI g to_ 25 tl), (aI g rk 7 rk_), (aI g rb 36 rb_), (aM g cn 7 (he_ro 7 r3)), (aM g br 7 (he_ro 7 r4))] (he_pl g L ln M)) rfl (he_ixP rfl) (he_ndP rfl rfl) (he_disN (by decide) rfl) (fun r_1 u_2 H locs h_3 hP hD hS => ?_)
  have hP := va_P.swap hP
  have hD := va_D.swap hD
  subst h_3
  have hP : va_P g.1 vwCl ([(oX11 m0 0 (nI ta) sz_ pl at_ fa fw cs fd rfm rt_ to_ rw_ wa (nI nt) rk rb cn br sm as_ go sh_ ir oa ob th ig sp_ ki tg of_ kp sf rs), (aI g fd 500 fb), (aI g to_ 25 tl), (aI g rk 7 rk_), (aI g rb 36 rb_), (aM g cn 7 (he_ro 7 r3)), (aM g br 7 (he_ro 7 r4))] ++ he_pl g L ln M) H := hP
  have hD : va_D A ([(oX11 m0 0 (nI ta) sz_ pl at_ fa fw cs fd rfm rt_ to_ rw_ wa (nI nt) rk rb cn br sm as_ go sh_ ir oa ob th ig sp_ ki tg of_ kp sf rs), (aI g fd 500 fb), (aI g to_ 25 tl), (aI g rk 7 rk_), (aI g rb 36 rb_), (aM g cn 7 (he_ro 7 r3)), (aM g br 7 (he_ro 7 r4))] ++ he_pl g L ln M) := hD
  refine he_top (1) (he_within_in (a0 := 0) (B := ta) rfl rfl (by omega) (by omega) (by omega)) ?_
  refine lv_if_eq (tgt := 25) hx hb dX11_contract_15 (by decide) (fun c_4 => ?_) (fun c_4 => ?_)
  · exact absurd c_4 (by decide)
  · refine lv_iload_n hx hb dX11_contract_18 rfl (lv_at hl 1 rfl) ?_
    refine lv_sipush (v := 200) hx hb dX11_contract_19 (by decide) ?_
    refine lv_icmp_le (tgt := 29) hx hb dX11_contract_22 (by decide) (fun c_5 => ?_) (fun c_5 => ?_)
    · refine lv_iconst (v := 0) hx hb dX11_contract_29 (by decide) ?_
      refine lv_iconst (v := 1) hx hb dX11_contract_30 (by decide) ?_
      refine lv_iconst (v := 2) hx hb dX11_contract_31 (by decide) ?_
      refine he_ci (wc := [(oX11 m0 0 (nI ta) sz_ pl at_ fa fw cs fd rfm rt_ to_ rw_ wa (nI nt) rk rb cn br sm as_ go sh_ ir oa ob th ig sp_ ki tg of_ kp sf rs)]) (wr := ([(aI g fd 500 fb), (aI g to_ 25 tl), (aI g rk 7 rk_), (aI g rb 36 rb_), (aM g cn 7 (he_ro 7 r3)), (aM g br 7 (he_ro 7 r4))] ++ (he_pl g L ln M))) (va_runV (As := [.int 0, .int 1, .int 2]) (rest := []) ⟨hx, hb, hml, hown, hts⟩ (c_X11_bad0 l g m0 fd rfm rt_ to_ rw_ wa rk rb cn br sm as_ go sh_ ki tg of_ kp rs (nI ta) sz_ pl at_ fa fw cs (nI nt) ir oa ob th ig sp_ sf 1 2 H.size) (cwV 3 hts gX11_contract_X11_bad rfl rfl rfl (by decide +kernel) ⟨Nat.le_of_ble_eq_true rfl, Nat.le_of_ble_eq_true rfl⟩) (he_preV (wc := [(oX11 m0 0 (nI ta) sz_ pl at_ fa fw cs fd rfm rt_ to_ rw_ wa (nI nt) rk rb cn br sm as_ go sh_ ir oa ob th ig sp_ ki tg of_ kp sf rs)]) hK hP hD hS hA hE [0] rfl rfl 0 rfl rfl) rfl rfl hl.1 rfl (lv_room (Nat.le_of_ble_eq_true rfl)) dX11_contract_32 ⟨(Nat.le_of_ble_eq_true rfl), (Nat.le_of_ble_eq_true rfl)⟩) hP hD hS hA [0] (he_is [1, 2, 3, 4, 5, 6] [(oX11 m0 0 (nI ta) sz_ pl at_ fa fw cs fd rfm rt_ to_ rw_ wa (nI nt) rk rb cn br sm as_ go sh_ ir oa ob th ig sp_ ki tg of_ kp sf rs), (aI g fd 500 fb), (aI g to_ 25 tl), (aI g rk 7 rk_), (aI g rb 36 rb_), (aM g cn 7 (he_ro 7 r3)), (aM g br 7 (he_ro 7 r4))] (he_pl g L ln M)) rfl (he_ixP rfl) (he_ndP rfl rfl) (he_disN (by decide) rfl) (fun r_6 u_7 H locs h_8 hP hD hS => ?_)
      have hP := va_P.swap hP
      have hD := va_D.swap hD
      subst h_8
      have hP : va_P g.1 vwCl ([(aI g fd 500 fb), (aI g to_ 25 tl), (aI g rk 7 rk_), (aI g rb 36 rb_), (aM g cn 7 (he_ro 7 r3)), (aM g br 7 (he_ro 7 r4)), (oX11 m0 0 (nI ta) sz_ pl at_ fa fw cs fd rfm rt_ to_ rw_ wa (nI nt) rk rb cn br sm as_ go sh_ ir oa ob th ig sp_ ki tg of_ kp sf rs)] ++ he_pl g L ln M) H := hP
      have hD : va_D A ([(aI g fd 500 fb), (aI g to_ 25 tl), (aI g rk 7 rk_), (aI g rb 36 rb_), (aM g cn 7 (he_ro 7 r3)), (aM g br 7 (he_ro 7 r4)), (oX11 m0 0 (nI ta) sz_ pl at_ fa fw cs fd rfm rt_ to_ rw_ wa (nI nt) rk rb cn br sm as_ go sh_ ir oa ob th ig sp_ ki tg of_ kp sf rs)] ++ he_pl g L ln M) := hD
      refine lv_if_eq (tgt := 40) hx hb dX11_contract_35 (by decide) (fun c_9 => ?_) (fun c_9 => ?_)
      · refine lv_aload_n hx hb dX11_contract_40 rfl (lv_at hl 0 rfl) ?_
        refine lv_iload_n hx hb dX11_contract_41 rfl (lv_at hl 1 rfl) ?_
        refine he_cv (wc := [(oX11 m0 0 (nI ta) sz_ pl at_ fa fw cs fd rfm rt_ to_ rw_ wa (nI nt) rk rb cn br sm as_ go sh_ ir oa ob th ig sp_ ki tg of_ kp sf rs), (aI g fd 500 fb)]) (wr := ([(aI g to_ 25 tl), (aI g rk 7 rk_), (aI g rb 36 rb_), (aM g cn 7 (he_ro 7 r3)), (aM g br 7 (he_ro 7 r4))] ++ (he_pl g L ln M))) (va_runV (As := [.int (nI n)]) (rest := []) ⟨hx, hb, hml, hown, hts⟩ (h_X11_starts l g m0 fd rfm rt_ to_ rw_ wa rk rb cn br sm as_ go sh_ ki tg of_ kp rs (nI ta) sz_ pl at_ fa fw cs (nI nt) ir oa ob th ig sp_ sf 0 n fb (by omega) H.size) (cwV 1 hts gX11_contract_X11_starts rfl rfl rfl (by decide +kernel) ⟨Nat.le_of_ble_eq_true rfl, Nat.le_of_ble_eq_true rfl⟩) (he_preV (wc := [(oX11 m0 0 (nI ta) sz_ pl at_ fa fw cs fd rfm rt_ to_ rw_ wa (nI nt) rk rb cn br sm as_ go sh_ ir oa ob th ig sp_ ki tg of_ kp sf rs), (aI g fd 500 fb)]) hK hP hD hS hA hE [6, 0] rfl rfl 6 rfl rfl) rfl rfl hl.1 rfl (lv_room (Nat.le_of_ble_eq_true rfl)) dX11_contract_42 ⟨(Nat.le_of_ble_eq_true rfl), (Nat.le_of_ble_eq_true rfl)⟩) hP hD hS hA [6, 0] (he_is [1, 2, 3, 4, 5] [(aI g fd 500 fb), (aI g to_ 25 tl), (aI g rk 7 rk_), (aI g rb 36 rb_), (aM g cn 7 (he_ro 7 r3)), (aM g br 7 (he_ro 7 r4)), (oX11 m0 0 (nI ta) sz_ pl at_ fa fw cs fd rfm rt_ to_ rw_ wa (nI nt) rk rb cn br sm as_ go sh_ ir oa ob th ig sp_ ki tg of_ kp sf rs)] (he_pl g L ln M)) rfl (he_ixP rfl) (he_ndP rfl rfl) (he_disN (by decide) rfl) (fun u_11 H locs h_12 hP hD hS => ?_)
        have hP := va_P.swap hP
        have hD := va_D.swap hD
        obtain ⟨k2_13, rfl⟩ : ∃ z, z = u_11 := ⟨_, rfl⟩
        try dsimp only at h_12
        have hf_14 := h_12
        have hP : va_P g.1 vwCl ([(aI g to_ 25 tl), (aI g rk 7 rk_), (aI g rb 36 rb_), (aM g cn 7 (he_ro 7 r3)), (aM g br 7 (he_ro 7 r4)), (oX11 m0 0 0 (nI n) pl (nI k2_13) 0 (-1) 0 fd rfm rt_ to_ rw_ wa (nI nt) rk rb cn br sm as_ go sh_ ir oa ob th ig sp_ ki tg of_ kp sf rs), (aI g fd 500 fb)] ++ he_pl g L ln M) H := hP
        have hD : va_D A ([(aI g to_ 25 tl), (aI g rk 7 rk_), (aI g rb 36 rb_), (aM g cn 7 (he_ro 7 r3)), (aM g br 7 (he_ro 7 r4)), (oX11 m0 0 0 (nI n) pl (nI k2_13) 0 (-1) 0 fd rfm rt_ to_ rw_ wa (nI nt) rk rb cn br sm as_ go sh_ ir oa ob th ig sp_ ki tg of_ kp sf rs), (aI g fd 500 fb)] ++ he_pl g L ln M) := hD
        refine lv_aload_n hx hb dX11_contract_45 rfl (lv_at hl 0 rfl) ?_
        refine lv_iconst (v := (-1)) hx hb dX11_contract_46 (by decide) ?_
        refine va_put (v := .int (-1)) (ty := .int) (T := TX11) (N := 35) hx hb hts inX11 tyX11 tyX11_ok nmX11 hown hK hP hD hS 5 rfl rfl 3 (by decide) f9 (fun _ h9 => h9) rfl (by decide +kernel) rfl rfl (Nat.le_of_ble_eq_true rfl) dX11_contract_47 (fun H locs hP hD hS => ?_)
        have hP : va_P g.1 vwCl ([(aI g to_ 25 tl), (aI g rk 7 rk_), (aI g rb 36 rb_), (aM g cn 7 (he_ro 7 r3)), (aM g br 7 (he_ro 7 r4)), (oX11 m0 0 0 (nI n) (-1) (nI k2_13) 0 (-1) 0 fd rfm rt_ to_ rw_ wa (nI nt) rk rb cn br sm as_ go sh_ ir oa ob th ig sp_ ki tg of_ kp sf rs), (aI g fd 500 fb)] ++ he_pl g L ln M) H := hP
        have hD : va_D A ([(aI g to_ 25 tl), (aI g rk 7 rk_), (aI g rb 36 rb_), (aM g cn 7 (he_ro 7 r3)), (aM g br 7 (he_ro 7 r4)), (oX11 m0 0 0 (nI n) (-1) (nI k2_13) 0 (-1) 0 fd rfm rt_ to_ rw_ wa (nI nt) rk rb cn br sm as_ go sh_ ir oa ob th ig sp_ ki tg of_ kp sf rs), (aI g fd 500 fb)] ++ he_pl g L ln M) := hD
        refine lv_aload_n hx hb dX11_contract_50 rfl (lv_at hl 0 rfl) ?_
        refine va_get (v := .int (nI nt)) (T := TX11) (N := 35) hx hb hts inX11 hown hK hP 5 rfl rfl 14 (by decide) f162 (fun _ h9 => h9) rfl dX11_contract_51 ?_
        refine lv_bipush (v := 6) hx hb dX11_contract_54 (by decide) ?_
        refine lv_icmp_ne (tgt := 61) hx hb dX11_contract_56 (by decide) (fun c_15 => ?_) (fun c_15 => ?_)
        · have k_16 : ¬ (nt = 6) := fun h9 => c_15 ((he_ceq (a := nt) (b := 6) rfl (by decide) (by omega) (by omega)).mpr h9)
          refine lv_iconst (v := 0) hx hb dX11_contract_61 (by decide) ?_
          refine lv_istore_n (lv' := [(2, .int 0), (0, .ref m0), (1, .int (nI n))]) hx hb dX11_contract_62 rfl hl (by decide) rfl (fun ls hl => ?_)
          have loop63 : ∀ (n9 : Nat) (i1 : Nat), 7 - i1 < n9 → (i1 ≤ 7) → ∀ (H : Heap) (locs : List Loc) (ls : Array Slot), va_P g.1 vwCl ([(oX11 m0 0 0 (nI n) (-1) (nI k2_13) 0 (-1) 0 fd rfm rt_ to_ rw_ wa (nI nt) rk rb cn br sm as_ go sh_ ir oa ob th ig sp_ ki tg of_ kp sf rs), (aI g fd 500 fb), (aI g to_ 25 tl), (aI g rk 7 (flF iniF rk_ i1)), (aI g rb 36 rb_), (aM g cn 7 (he_ro 7 r3)), (aM g br 7 (he_ro 7 r4))] ++ he_pl g L ln M) H → va_D A ([(oX11 m0 0 0 (nI n) (-1) (nI k2_13) 0 (-1) 0 fd rfm rt_ to_ rw_ wa (nI nt) rk rb cn br sm as_ go sh_ ir oa ob th ig sp_ ki tg of_ kp sf rs), (aI g fd 500 fb), (aI g to_ 25 tl), (aI g rk 7 (flF iniF rk_ i1)), (aI g rb 36 rb_), (aM g cn 7 (he_ro 7 r3)), (aM g br 7 (he_ro 7 r4))] ++ he_pl g L ln M) → va_S A s.heap H locs → lv_has ls 3 [(0, .ref m0), (1, .int (nI n)), (2, .int (nI i1))] → W p l e (he_room 5 112 0 0) s m args below meth c H locs 0 0 Q (F0 m 63 ls []) := by
            intro n9
            induction n9 with
            | zero => intro i1 hm9; exact absurd hm9 (Nat.not_lt_zero _)
            | succ n9 ih63 =>
              intro i1 hm9 hi1 H locs ls hP hD hS hl
              refine lv_iload_n hx hb dX11_contract_63 rfl (lv_at hl 2 rfl) ?_
              refine lv_bipush (v := 7) hx hb dX11_contract_64 (by decide) ?_
              refine lv_icmp_ge (tgt := 111) hx hb dX11_contract_66 (by decide) (fun c_17 => ?_) (fun c_17 => ?_)
              · have k_18 : 7 ≤ i1 := (he_cle (a := 7) (b := i1) (by decide) rfl (by omega) (by omega)).mp c_17
                obtain rfl : i1 = 7 := by omega
                refine lv_iconst (v := 0) hx hb dX11_contract_111 (by decide) ?_
                refine lv_istore_n (lv' := [(2, .int 0), (0, .ref m0), (1, .int (nI n))]) hx hb dX11_contract_112 rfl hl (by decide) rfl (fun ls hl => ?_)
                have loop113 : ∀ (n9 : Nat) (i2 : Nat), 36 - i2 < n9 → (i2 ≤ 36) → ∀ (H : Heap) (locs : List Loc) (ls : Array Slot), va_P g.1 vwCl ([(oX11 m0 0 0 (nI n) (-1) (nI k2_13) 0 (-1) 0 fd rfm rt_ to_ rw_ wa (nI nt) rk rb cn br sm as_ go sh_ ir oa ob th ig sp_ ki tg of_ kp sf rs), (aI g fd 500 fb), (aI g to_ 25 tl), (aI g rk 7 (flF iniF rk_ 7)), (aI g rb 36 (flF (fun _ => -1) rb_ i2)), (aM g cn 7 (he_ro 7 r3)), (aM g br 7 (he_ro 7 r4))] ++ he_pl g L ln M) H → va_D A ([(oX11 m0 0 0 (nI n) (-1) (nI k2_13) 0 (-1) 0 fd rfm rt_ to_ rw_ wa (nI nt) rk rb cn br sm as_ go sh_ ir oa ob th ig sp_ ki tg of_ kp sf rs), (aI g fd 500 fb), (aI g to_ 25 tl), (aI g rk 7 (flF iniF rk_ 7)), (aI g rb 36 (flF (fun _ => -1) rb_ i2)), (aM g cn 7 (he_ro 7 r3)), (aM g br 7 (he_ro 7 r4))] ++ he_pl g L ln M) → va_S A s.heap H locs → lv_has ls 3 [(0, .ref m0), (1, .int (nI n)), (2, .int (nI i2))] → W p l e (he_room 5 112 0 0) s m args below meth c H locs 0 0 Q (F0 m 113 ls []) := by
                  intro n9
                  induction n9 with
                  | zero => intro i2 hm9; exact absurd hm9 (Nat.not_lt_zero _)
                  | succ n9 ih113 =>
                    intro i2 hm9 hi2 H locs ls hP hD hS hl
                    refine lv_iload_n hx hb dX11_contract_113 rfl (lv_at hl 2 rfl) ?_
                    refine lv_bipush (v := 36) hx hb dX11_contract_114 (by decide) ?_
                    refine lv_icmp_ge (tgt := 132) hx hb dX11_contract_116 (by decide) (fun c_19 => ?_) (fun c_19 => ?_)
                    · have k_20 : 36 ≤ i2 := (he_cle (a := 36) (b := i2) (by decide) rfl (by omega) (by omega)).mp c_19
                      obtain rfl : i2 = 36 := by omega
                      have loop132 : ∀ (n9 : Nat) (kj : Nat) (fj : Int32) (fg : Int32) (cj : Int32) (rkj : Nat → Int32) (rbj : Nat → Int32), (if fj = 0 then n - kj + 1 else 0) < n9 → (kj ≤ n) → (fj = 0 → (cOk rkj ∧ bOk rbj)) → ∀ (H : Heap) (locs : List Loc) (ls : Array Slot), va_P g.1 vwCl ([(oX11 m0 0 0 (nI n) (-1) (nI kj) fj fg cj fd rfm rt_ to_ rw_ wa (nI nt) rk rb cn br sm as_ go sh_ ir oa ob th ig sp_ ki tg of_ kp sf rs), (aI g fd 500 fb), (aI g to_ 25 tl), (aI g rk 7 rkj), (aI g rb 36 rbj), (aM g cn 7 (he_ro 7 r3)), (aM g br 7 (he_ro 7 r4))] ++ he_pl g L ln M) H → va_D A ([(oX11 m0 0 0 (nI n) (-1) (nI kj) fj fg cj fd rfm rt_ to_ rw_ wa (nI nt) rk rb cn br sm as_ go sh_ ir oa ob th ig sp_ ki tg of_ kp sf rs), (aI g fd 500 fb), (aI g to_ 25 tl), (aI g rk 7 rkj), (aI g rb 36 rbj), (aM g cn 7 (he_ro 7 r3)), (aM g br 7 (he_ro 7 r4))] ++ he_pl g L ln M) → va_S A s.heap H locs → lv_has ls 3 [(0, .ref m0), (1, .int (nI n))] → W p l e (he_room 5 112 0 0) s m args below meth c H locs 0 0 Q (F0 m 132 ls []) := by
                        intro n9
                        induction n9 with
                        | zero => intro kj fj fg cj rkj rbj hm9; exact absurd hm9 (Nat.not_lt_zero _)
                        | succ n9 ih132 =>
                          intro kj fj fg cj rkj rbj hm9 hkj hcb H locs ls hP hD hS hl
                          refine lv_aload_n hx hb dX11_contract_132 rfl (lv_at hl 0 rfl) ?_
                          refine va_get (v := .int fj) (T := TX11) (N := 35) hx hb hts inX11 hown hK hP 0 rfl rfl 5 (by decide) f101 (fun _ h9 => h9) rfl dX11_contract_133 ?_
                          refine lv_if_ne (tgt := 161) hx hb dX11_contract_136 (by decide) (fun c_21 => ?_) (fun c_21 => ?_)
                          · refine lv_aload_n hx hb dX11_contract_161 rfl (lv_at hl 0 rfl) ?_
                            refine lv_aload_n hx hb dX11_contract_162 rfl (lv_at hl 0 rfl) ?_
                            refine va_get (v := .int fg) (T := TX11) (N := 35) hx hb hts inX11 hown hK hP 0 rfl rfl 6 (by decide) f104 (fun _ h9 => h9) rfl dX11_contract_163 ?_
                            refine va_put (v := .int fg) (ty := .int) (T := TX11) (N := 35) hx hb hts inX11 tyX11 tyX11_ok nmX11 hown hK hP hD hS 0 rfl rfl 3 (by decide) f9 (fun _ h9 => h9) rfl (by decide +kernel) rfl rfl (Nat.le_of_ble_eq_true rfl) dX11_contract_166 (fun H locs hP hD hS => ?_)
                            have hP : va_P g.1 vwCl ([(oX11 m0 0 0 (nI n) fg (nI kj) fj fg cj fd rfm rt_ to_ rw_ wa (nI nt) rk rb cn br sm as_ go sh_ ir oa ob th ig sp_ ki tg of_ kp sf rs), (aI g fd 500 fb), (aI g to_ 25 tl), (aI g rk 7 rkj), (aI g rb 36 rbj), (aM g cn 7 (he_ro 7 r3)), (aM g br 7 (he_ro 7 r4))] ++ he_pl g L ln M) H := hP
                            have hD : va_D A ([(oX11 m0 0 0 (nI n) fg (nI kj) fj fg cj fd rfm rt_ to_ rw_ wa (nI nt) rk rb cn br sm as_ go sh_ ir oa ob th ig sp_ ki tg of_ kp sf rs), (aI g fd 500 fb), (aI g to_ 25 tl), (aI g rk 7 rkj), (aI g rb 36 rbj), (aM g cn 7 (he_ro 7 r3)), (aM g br 7 (he_ro 7 r4))] ++ he_pl g L ln M) := hD
                            refine lv_aload_n hx hb dX11_contract_169 rfl (lv_at hl 0 rfl) ?_
                            refine va_get (v := .int fj) (T := TX11) (N := 35) hx hb hts inX11 hown hK hP 0 rfl rfl 5 (by decide) f101 (fun _ h9 => h9) rfl dX11_contract_170 ?_
                            refine lv_if_eq (tgt := 184) hx hb dX11_contract_173 (by decide) (fun c_22 => ?_) (fun c_22 => ?_)
                            · exact absurd c_22 c_21
                            · refine lv_aload_n hx hb dX11_contract_176 rfl (lv_at hl 0 rfl) ?_
                              refine va_get (v := .int fj) (T := TX11) (N := 35) hx hb hts inX11 hown hK hP 0 rfl rfl 5 (by decide) f101 (fun _ h9 => h9) rfl dX11_contract_177 ?_
                              refine lv_bipush (v := 10) hx hb dX11_contract_180 (by decide) ?_
                              refine lv_isub hx hb dX11_contract_182 ?_
                              exact he_ri hQ hx hb hr hlk hP hD hS dX11_contract_183 (Nat.le_of_ble_eq_true rfl) (Nat.le_of_ble_eq_true rfl) ((nt, kj, fj, fg, cj, fg, rkj, rbj, M)) (rfl) (by (try dsimp only); exact ⟨by (try dsimp only); omega, Or.inl ⟨rfl, rfl, Or.inr ⟨by (try dsimp only); omega, c_22, rfl⟩⟩⟩)
                          · refine lv_aload_n hx hb dX11_contract_139 rfl (lv_at hl 0 rfl) ?_
                            refine va_get (v := .int (nI kj)) (T := TX11) (N := 35) hx hb hts inX11 hown hK hP 0 rfl rfl 4 (by decide) f94 (fun _ h9 => h9) rfl dX11_contract_140 ?_
                            refine lv_aload_n hx hb dX11_contract_143 rfl (lv_at hl 0 rfl) ?_
                            refine va_get (v := .int (nI n)) (T := TX11) (N := 35) hx hb hts inX11 hown hK hP 0 rfl rfl 2 (by decide) f91 (fun _ h9 => h9) rfl dX11_contract_144 ?_
                            refine lv_icmp_ge (tgt := 161) hx hb dX11_contract_147 (by decide) (fun c_23 => ?_) (fun c_23 => ?_)
                            · have k_24 : n ≤ kj := (he_cle (a := n) (b := kj) rfl rfl (by omega) (by omega)).mp c_23
                              refine lv_aload_n hx hb dX11_contract_161 rfl (lv_at hl 0 rfl) ?_
                              refine lv_aload_n hx hb dX11_contract_162 rfl (lv_at hl 0 rfl) ?_
                              refine va_get (v := .int fg) (T := TX11) (N := 35) hx hb hts inX11 hown hK hP 0 rfl rfl 6 (by decide) f104 (fun _ h9 => h9) rfl dX11_contract_163 ?_
                              refine va_put (v := .int fg) (ty := .int) (T := TX11) (N := 35) hx hb hts inX11 tyX11 tyX11_ok nmX11 hown hK hP hD hS 0 rfl rfl 3 (by decide) f9 (fun _ h9 => h9) rfl (by decide +kernel) rfl rfl (Nat.le_of_ble_eq_true rfl) dX11_contract_166 (fun H locs hP hD hS => ?_)
                              have hP : va_P g.1 vwCl ([(oX11 m0 0 0 (nI n) fg (nI kj) fj fg cj fd rfm rt_ to_ rw_ wa (nI nt) rk rb cn br sm as_ go sh_ ir oa ob th ig sp_ ki tg of_ kp sf rs), (aI g fd 500 fb), (aI g to_ 25 tl), (aI g rk 7 rkj), (aI g rb 36 rbj), (aM g cn 7 (he_ro 7 r3)), (aM g br 7 (he_ro 7 r4))] ++ he_pl g L ln M) H := hP
                              have hD : va_D A ([(oX11 m0 0 0 (nI n) fg (nI kj) fj fg cj fd rfm rt_ to_ rw_ wa (nI nt) rk rb cn br sm as_ go sh_ ir oa ob th ig sp_ ki tg of_ kp sf rs), (aI g fd 500 fb), (aI g to_ 25 tl), (aI g rk 7 rkj), (aI g rb 36 rbj), (aM g cn 7 (he_ro 7 r3)), (aM g br 7 (he_ro 7 r4))] ++ he_pl g L ln M) := hD
                              refine lv_aload_n hx hb dX11_contract_169 rfl (lv_at hl 0 rfl) ?_
                              refine va_get (v := .int fj) (T := TX11) (N := 35) hx hb hts inX11 hown hK hP 0 rfl rfl 5 (by decide) f101 (fun _ h9 => h9) rfl dX11_contract_170 ?_
                              refine lv_if_eq (tgt := 184) hx hb dX11_contract_173 (by decide) (fun c_25 => ?_) (fun c_25 => ?_)
                              · have hf0 := c_25
                                refine lv_aload_n hx hb dX11_contract_184 rfl (lv_at hl 0 rfl) ?_
                                refine va_get (v := .ref rk) (T := TX11) (N := 35) hx hb hts inX11 hown hK hP 0 rfl rfl 15 (by decide) f34 (fun _ h9 => h9) rfl dX11_contract_185 ?_
                                refine lv_iconst (v := 1) hx hb dX11_contract_188 (by decide) ?_
                                refine lv_aload_n hx hb dX11_contract_189 rfl (lv_at hl 0 rfl) ?_
                                refine va_get (v := .ref rk) (T := TX11) (N := 35) hx hb hts inX11 hown hK hP 0 rfl rfl 15 (by decide) f34 (fun _ h9 => h9) rfl dX11_contract_190 ?_
                                refine lv_iconst (v := 1) hx hb dX11_contract_193 (by decide) ?_
                                refine he_iald hx hb hK hP 3 rfl (1) (by decide) (by decide) (by first | decide | assumption) (rkj 1) rfl dX11_contract_194 ?_
                                refine lv_iconst (v := (-1)) hx hb dX11_contract_195 (by decide) ?_
                                refine lv_icmp_ne (tgt := 208) hx hb dX11_contract_196 (by decide) (fun c_26 => ?_) (fun c_26 => ?_)
                                · refine lv_aload_n hx hb dX11_contract_208 rfl (lv_at hl 0 rfl) ?_
                                  refine va_get (v := .ref rk) (T := TX11) (N := 35) hx hb hts inX11 hown hK hP 0 rfl rfl 15 (by decide) f34 (fun _ h9 => h9) rfl dX11_contract_209 ?_
                                  refine lv_iconst (v := 1) hx hb dX11_contract_212 (by decide) ?_
                                  refine he_iald hx hb hK hP 3 rfl (1) (by decide) (by decide) (by first | decide | assumption) (rkj 1) rfl dX11_contract_213 ?_
                                  refine he_iast hx hb hK hP hD hS 3 rfl (1) (by decide) (by decide) (by first | decide | assumption) dX11_contract_214 (fun H locs hP hD hS => ?_)
                                  have hP : va_P g.1 vwCl ([(oX11 m0 0 0 (nI n) fg (nI kj) fj fg cj fd rfm rt_ to_ rw_ wa (nI nt) rk rb cn br sm as_ go sh_ ir oa ob th ig sp_ ki tg of_ kp sf rs), (aI g fd 500 fb), (aI g to_ 25 tl), (aI g rk 7 (upd rkj 1 (rkj 1))), (aI g rb 36 rbj), (aM g cn 7 (he_ro 7 r3)), (aM g br 7 (he_ro 7 r4))] ++ he_pl g L ln M) H := hP
                                  have hD : va_D A ([(oX11 m0 0 0 (nI n) fg (nI kj) fj fg cj fd rfm rt_ to_ rw_ wa (nI nt) rk rb cn br sm as_ go sh_ ir oa ob th ig sp_ ki tg of_ kp sf rs), (aI g fd 500 fb), (aI g to_ 25 tl), (aI g rk 7 (upd rkj 1 (rkj 1))), (aI g rb 36 rbj), (aM g cn 7 (he_ro 7 r3)), (aM g br 7 (he_ro 7 r4))] ++ he_pl g L ln M) := hD
                                  refine lv_iconst (v := 0) hx hb dX11_contract_215 (by decide) ?_
                                  refine lv_istore_n (lv' := [(2, .int 0), (0, .ref m0), (1, .int (nI n))]) hx hb dX11_contract_216 rfl hl (by decide) rfl (fun ls hl => ?_)
                                  have loop217 : ∀ (n9 : Nat) (i3 : Nat) (rkj3 : Nat → Int32) (Mj : Nat → Nat → Int32), 36 - i3 < n9 → (i3 ≤ 36) → (cOk rkj3) → (bOk rbj) → (rFill (r4 nt) rbj M Mj i3) → ∀ (H : Heap) (locs : List Loc) (ls : Array Slot), va_P g.1 vwCl ([(oX11 m0 0 0 (nI n) fg (nI kj) fj fg cj fd rfm rt_ to_ rw_ wa (nI nt) rk rb cn br sm as_ go sh_ ir oa ob th ig sp_ ki tg of_ kp sf rs), (aI g fd 500 fb), (aI g to_ 25 tl), (aI g rk 7 rkj3), (aI g rb 36 rbj), (aM g cn 7 (he_ro 7 r3)), (aM g br 7 (he_ro 7 r4))] ++ he_pl g L ln Mj) H → va_D A ([(oX11 m0 0 0 (nI n) fg (nI kj) fj fg cj fd rfm rt_ to_ rw_ wa (nI nt) rk rb cn br sm as_ go sh_ ir oa ob th ig sp_ ki tg of_ kp sf rs), (aI g fd 500 fb), (aI g to_ 25 tl), (aI g rk 7 rkj3), (aI g rb 36 rbj), (aM g cn 7 (he_ro 7 r3)), (aM g br 7 (he_ro 7 r4))] ++ he_pl g L ln Mj) → va_S A s.heap H locs → lv_has ls 3 [(0, .ref m0), (1, .int (nI n)), (2, .int (nI i3))] → W p l e (he_room 5 112 0 0) s m args below meth c H locs 0 0 Q (F0 m 217 ls []) := by
                                    intro n9
                                    induction n9 with
                                    | zero => intro i3 rkj3 Mj hm9; exact absurd hm9 (Nat.not_lt_zero _)
                                    | succ n9 ih217 =>
                                      intro i3 rkj3 Mj hm9 hi3 hck hbk hy H locs ls hP hD hS hl
                                      refine lv_iload_n hx hb dX11_contract_217 rfl (lv_at hl 2 rfl) ?_
                                      refine lv_bipush (v := 36) hx hb dX11_contract_218 (by decide) ?_
                                      refine lv_icmp_ge (tgt := 271) hx hb dX11_contract_220 (by decide) (fun c_27 => ?_) (fun c_27 => ?_)
                                      · have k_28 : 36 ≤ i3 := (he_cle (a := 36) (b := i3) (by decide) rfl (by omega) (by omega)).mp c_27
                                        obtain rfl : i3 = 36 := by omega
                                        refine lv_iconst (v := 0) hx hb dX11_contract_271 (by decide) ?_
                                        refine lv_istore_n (lv' := [(2, .int 0), (0, .ref m0), (1, .int (nI n))]) hx hb dX11_contract_272 rfl hl (by decide) rfl (fun ls hl => ?_)
                                        have loop273 : ∀ (n9 : Nat) (i4 : Nat) (M7 : Nat → Nat → Int32), 7 - i4 < n9 → (i4 ≤ 7) → (rFill (r3 nt) rkj3 Mj M7 i4) → ∀ (H : Heap) (locs : List Loc) (ls : Array Slot), va_P g.1 vwCl ([(oX11 m0 0 0 (nI n) fg (nI kj) fj fg cj fd rfm rt_ to_ rw_ wa (nI nt) rk rb cn br sm as_ go sh_ ir oa ob th ig sp_ ki tg of_ kp sf rs), (aI g fd 500 fb), (aI g to_ 25 tl), (aI g rk 7 rkj3), (aI g rb 36 rbj), (aM g cn 7 (he_ro 7 r3)), (aM g br 7 (he_ro 7 r4))] ++ he_pl g L ln M7) H → va_D A ([(oX11 m0 0 0 (nI n) fg (nI kj) fj fg cj fd rfm rt_ to_ rw_ wa (nI nt) rk rb cn br sm as_ go sh_ ir oa ob th ig sp_ ki tg of_ kp sf rs), (aI g fd 500 fb), (aI g to_ 25 tl), (aI g rk 7 rkj3), (aI g rb 36 rbj), (aM g cn 7 (he_ro 7 r3)), (aM g br 7 (he_ro 7 r4))] ++ he_pl g L ln M7) → va_S A s.heap H locs → lv_has ls 3 [(0, .ref m0), (1, .int (nI n)), (2, .int (nI i4))] → W p l e (he_room 5 112 0 0) s m args below meth c H locs 0 0 Q (F0 m 273 ls []) := by
                                          intro n9
                                          induction n9 with
                                          | zero => intro i4 M7 hm9; exact absurd hm9 (Nat.not_lt_zero _)
                                          | succ n9 ih273 =>
                                            intro i4 M7 hm9 hi4 hz H locs ls hP hD hS hl
                                            refine lv_iload_n hx hb dX11_contract_273 rfl (lv_at hl 2 rfl) ?_
                                            refine lv_bipush (v := 7) hx hb dX11_contract_274 (by decide) ?_
                                            refine lv_icmp_ge (tgt := 302) hx hb dX11_contract_276 (by decide) (fun c_29 => ?_) (fun c_29 => ?_)
                                            · have k_30 : 7 ≤ i4 := (he_cle (a := 7) (b := i4) (by decide) rfl (by omega) (by omega)).mp c_29
                                              obtain rfl : i4 = 7 := by omega
                                              refine lv_aload_n hx hb dX11_contract_302 rfl (lv_at hl 0 rfl) ?_
                                              refine lv_dup hx hb dX11_contract_303 rfl ?_
                                              refine va_get (v := .int (nI nt)) (T := TX11) (N := 35) hx hb hts inX11 hown hK hP 0 rfl rfl 14 (by decide) f162 (fun _ h9 => h9) rfl dX11_contract_304 ?_
                                              refine lv_iconst (v := 1) hx hb dX11_contract_307 (by decide) ?_
                                              refine lv_iadd hx hb dX11_contract_308 ?_
                                              refine he_top (nI (nt + 1)) (nI_add nt 1) ?_
                                              refine va_put (v := .int (nI (nt + 1))) (ty := .int) (T := TX11) (N := 35) hx hb hts inX11 tyX11 tyX11_ok nmX11 hown hK hP hD hS 0 rfl rfl 14 (by decide) f162 (fun _ h9 => h9) rfl (by decide +kernel) rfl rfl (Nat.le_of_ble_eq_true rfl) dX11_contract_309 (fun H locs hP hD hS => ?_)
                                              have hP : va_P g.1 vwCl ([(oX11 m0 0 0 (nI n) fg (nI kj) fj fg cj fd rfm rt_ to_ rw_ wa (nI (nt + 1)) rk rb cn br sm as_ go sh_ ir oa ob th ig sp_ ki tg of_ kp sf rs), (aI g fd 500 fb), (aI g to_ 25 tl), (aI g rk 7 rkj3), (aI g rb 36 rbj), (aM g cn 7 (he_ro 7 r3)), (aM g br 7 (he_ro 7 r4))] ++ he_pl g L ln M7) H := hP
                                              have hD : va_D A ([(oX11 m0 0 0 (nI n) fg (nI kj) fj fg cj fd rfm rt_ to_ rw_ wa (nI (nt + 1)) rk rb cn br sm as_ go sh_ ir oa ob th ig sp_ ki tg of_ kp sf rs), (aI g fd 500 fb), (aI g to_ 25 tl), (aI g rk 7 rkj3), (aI g rb 36 rbj), (aM g cn 7 (he_ro 7 r3)), (aM g br 7 (he_ro 7 r4))] ++ he_pl g L ln M7) := hD
                                              refine lv_aload_n hx hb dX11_contract_312 rfl (lv_at hl 0 rfl) ?_
                                              refine va_get (v := .int (nI (nt + 1))) (T := TX11) (N := 35) hx hb hts inX11 hown hK hP 0 rfl rfl 14 (by decide) f162 (fun _ h9 => h9) rfl dX11_contract_313 ?_
                                              refine lv_iconst (v := 1) hx hb dX11_contract_316 (by decide) ?_
                                              refine lv_isub hx hb dX11_contract_317 ?_
                                              refine he_top (nI nt) (nI_pred nt) ?_
                                              exact he_ri hQ hx hb hr hlk hP hD hS dX11_contract_318 (Nat.le_of_ble_eq_true rfl) (Nat.le_of_ble_eq_true rfl) ((nt + 1, kj, fj, fg, cj, fg, rkj3, rbj, M7)) (rfl) (by (try dsimp only); exact ⟨by (try dsimp only); omega, Or.inr ⟨by (try dsimp only); omega, rfl, cOk_eq hck (fun b hb => hz.1 b (by (try dsimp only); omega)), bOk_eq hbk (fun b hb => by (try dsimp only); rw [hz.2 _ (fun h9 => D_r3_r4 nt nt (by (try dsimp only); omega) (by (try dsimp only); omega) h9.symm)]; exact hy.1 b (by (try dsimp only); omega)), fun a h1 h2 => by (try dsimp only); rw [hz.2 a h1, hy.2 a h2], hf0, rfl⟩⟩)
                                            · have k_31 : ¬ (7 ≤ i4) := fun h9 => c_29 ((he_cle (a := 7) (b := i4) (by decide) rfl (by omega) (by omega)).mpr h9)
                                              refine lv_aload_n hx hb dX11_contract_279 rfl (lv_at hl 0 rfl) ?_
                                              refine va_get (v := .ref cn) (T := TX11) (N := 35) hx hb hts inX11 hown hK hP 0 rfl rfl 17 (by decide) f40 (fun _ h9 => h9) rfl dX11_contract_280 ?_
                                              refine lv_aload_n hx hb dX11_contract_283 rfl (lv_at hl 0 rfl) ?_
                                              refine va_get (v := .int (nI nt)) (T := TX11) (N := 35) hx hb hts inX11 hown hK hP 0 rfl rfl 14 (by decide) f162 (fun _ h9 => h9) rfl dX11_contract_284 ?_
                                              refine he_aldm hx hb hK hP 5 rfl (nt) rfl (by first | assumption | decide | omega) (by decide) dX11_contract_287 ?_
                                              refine lv_iload_n hx hb dX11_contract_288 rfl (lv_at hl 2 rfl) ?_
                                              refine lv_aload_n hx hb dX11_contract_289 rfl (lv_at hl 0 rfl) ?_
                                              refine va_get (v := .ref rk) (T := TX11) (N := 35) hx hb hts inX11 hown hK hP 0 rfl rfl 15 (by decide) f34 (fun _ h9 => h9) rfl dX11_contract_290 ?_
                                              refine lv_iload_n hx hb dX11_contract_293 rfl (lv_at hl 2 rfl) ?_
                                              refine he_iald hx hb hK hP 3 rfl (i4) rfl (by first | assumption | decide | omega) (by first | decide | assumption) (rkj3 i4) rfl dX11_contract_294 ?_
                                              refine he_past hx hb hK hP hD hS (F_r3 nt (by first | assumption | decide | omega)).1 (i4) rfl (by rw [(F_r3 nt (by first | assumption | decide | omega)).2.1]; exact (by first | assumption | decide | omega)) (by rw [(F_r3 nt (by first | assumption | decide | omega)).2.1]; decide) dX11_contract_295 (fun H locs hP hD hS => ?_)
                                              have hP : va_P g.1 vwCl ([(oX11 m0 0 0 (nI n) fg (nI kj) fj fg cj fd rfm rt_ to_ rw_ wa (nI nt) rk rb cn br sm as_ go sh_ ir oa ob th ig sp_ ki tg of_ kp sf rs), (aI g fd 500 fb), (aI g to_ 25 tl), (aI g rk 7 rkj3), (aI g rb 36 rbj), (aM g cn 7 (he_ro 7 r3)), (aM g br 7 (he_ro 7 r4))] ++ he_pl g L ln (va_up M7 (r3 nt) (upd (M7 (r3 nt)) i4 (rkj3 i4)))) H := hP
                                              have hD : va_D A ([(oX11 m0 0 0 (nI n) fg (nI kj) fj fg cj fd rfm rt_ to_ rw_ wa (nI nt) rk rb cn br sm as_ go sh_ ir oa ob th ig sp_ ki tg of_ kp sf rs), (aI g fd 500 fb), (aI g to_ 25 tl), (aI g rk 7 rkj3), (aI g rb 36 rbj), (aM g cn 7 (he_ro 7 r3)), (aM g br 7 (he_ro 7 r4))] ++ he_pl g L ln (va_up M7 (r3 nt) (upd (M7 (r3 nt)) i4 (rkj3 i4)))) := hD
                                              refine lv_iinc (v := nI (i4 + 1)) (lv' := [(2, .int (nI (i4 + 1))), (0, .ref m0), (1, .int (nI n))]) hx hb dX11_contract_296 hl (k := 2) rfl (nI_1 i4) (by decide) rfl (fun ls hl => ?_)
                                              refine lv_goto (tgt := 273) hx hb dX11_contract_299 (by decide) ?_
                                              exact ih273 (i4 + 1) (va_up M7 (r3 nt) (upd (M7 (r3 nt)) i4 (rkj3 i4))) (by omega) (by omega) (rFill_s hz) _ _ _ hP hD hS (lv_sub hl [1, 2, 0] rfl)
                                        exact loop273 ((7 - 0) + 1) 0 Mj (Nat.lt_succ_self _) (Nat.zero_le _) (rFill_0 _ _ _) _ _ _ hP hD hS (lv_sub hl [1, 2, 0] rfl)
                                      · have k_32 : ¬ (36 ≤ i3) := fun h9 => c_27 ((he_cle (a := 36) (b := i3) (by decide) rfl (by omega) (by omega)).mpr h9)
                                        refine lv_aload_n hx hb dX11_contract_223 rfl (lv_at hl 0 rfl) ?_
                                        refine va_get (v := .ref br) (T := TX11) (N := 35) hx hb hts inX11 hown hK hP 0 rfl rfl 18 (by decide) f43 (fun _ h9 => h9) rfl dX11_contract_224 ?_
                                        refine lv_aload_n hx hb dX11_contract_227 rfl (lv_at hl 0 rfl) ?_
                                        refine va_get (v := .int (nI nt)) (T := TX11) (N := 35) hx hb hts inX11 hown hK hP 0 rfl rfl 14 (by decide) f162 (fun _ h9 => h9) rfl dX11_contract_228 ?_
                                        refine he_aldm hx hb hK hP 6 rfl (nt) rfl (by first | assumption | decide | omega) (by decide) dX11_contract_231 ?_
                                        refine lv_iload_n hx hb dX11_contract_232 rfl (lv_at hl 2 rfl) ?_
                                        refine lv_aload_n hx hb dX11_contract_233 rfl (lv_at hl 0 rfl) ?_
                                        refine va_get (v := .ref rb) (T := TX11) (N := 35) hx hb hts inX11 hown hK hP 0 rfl rfl 16 (by decide) f37 (fun _ h9 => h9) rfl dX11_contract_234 ?_
                                        refine lv_iload_n hx hb dX11_contract_237 rfl (lv_at hl 2 rfl) ?_
                                        refine he_iald hx hb hK hP 4 rfl (i3) rfl (by first | assumption | decide | omega) (by first | decide | assumption) (rbj i3) rfl dX11_contract_238 ?_
                                        refine he_past hx hb hK hP hD hS (F_r4 nt (by first | assumption | decide | omega)).1 (i3) rfl (by rw [(F_r4 nt (by first | assumption | decide | omega)).2.1]; exact (by first | assumption | decide | omega)) (by rw [(F_r4 nt (by first | assumption | decide | omega)).2.1]; decide) dX11_contract_239 (fun H locs hP hD hS => ?_)
                                        have hP : va_P g.1 vwCl ([(oX11 m0 0 0 (nI n) fg (nI kj) fj fg cj fd rfm rt_ to_ rw_ wa (nI nt) rk rb cn br sm as_ go sh_ ir oa ob th ig sp_ ki tg of_ kp sf rs), (aI g fd 500 fb), (aI g to_ 25 tl), (aI g rk 7 rkj3), (aI g rb 36 rbj), (aM g cn 7 (he_ro 7 r3)), (aM g br 7 (he_ro 7 r4))] ++ he_pl g L ln (va_up Mj (r4 nt) (upd (Mj (r4 nt)) i3 (rbj i3)))) H := hP
                                        have hD : va_D A ([(oX11 m0 0 0 (nI n) fg (nI kj) fj fg cj fd rfm rt_ to_ rw_ wa (nI nt) rk rb cn br sm as_ go sh_ ir oa ob th ig sp_ ki tg of_ kp sf rs), (aI g fd 500 fb), (aI g to_ 25 tl), (aI g rk 7 rkj3), (aI g rb 36 rbj), (aM g cn 7 (he_ro 7 r3)), (aM g br 7 (he_ro 7 r4))] ++ he_pl g L ln (va_up Mj (r4 nt) (upd (Mj (r4 nt)) i3 (rbj i3)))) := hD
                                        refine lv_aload_n hx hb dX11_contract_240 rfl (lv_at hl 0 rfl) ?_
                                        refine va_get (v := .ref rk) (T := TX11) (N := 35) hx hb hts inX11 hown hK hP 0 rfl rfl 15 (by decide) f34 (fun _ h9 => h9) rfl dX11_contract_241 ?_
                                        refine lv_bipush (v := 6) hx hb dX11_contract_244 (by decide) ?_
                                        refine lv_dup2_11 hx hb dX11_contract_246 rfl rfl ?_
                                        refine he_iald hx hb hK hP 3 rfl (6) (by decide) (by decide) (by first | decide | assumption) (rkj3 6) rfl dX11_contract_247 ?_
                                        refine lv_aload_n hx hb dX11_contract_248 rfl (lv_at hl 0 rfl) ?_
                                        refine va_get (v := .ref rb) (T := TX11) (N := 35) hx hb hts inX11 hown hK hP 0 rfl rfl 16 (by decide) f37 (fun _ h9 => h9) rfl dX11_contract_249 ?_
                                        refine lv_iload_n hx hb dX11_contract_252 rfl (lv_at hl 2 rfl) ?_
                                        refine he_iald hx hb hK hP 4 rfl (i3) rfl (by first | assumption | decide | omega) (by first | decide | assumption) (rbj i3) rfl dX11_contract_253 ?_
                                        refine lv_iconst (v := (-1)) hx hb dX11_contract_254 (by decide) ?_
                                        refine lv_icmp_ne (tgt := 262) hx hb dX11_contract_255 (by decide) (fun c_33 => ?_) (fun c_33 => ?_)
                                        · refine lv_iconst (v := 1) hx hb dX11_contract_262 (by decide) ?_
                                          refine lv_iadd hx hb dX11_contract_263 ?_
                                          refine he_iast hx hb hK hP hD hS 3 rfl (6) (by decide) (by decide) (by first | decide | assumption) dX11_contract_264 (fun H locs hP hD hS => ?_)
                                          have hP : va_P g.1 vwCl ([(oX11 m0 0 0 (nI n) fg (nI kj) fj fg cj fd rfm rt_ to_ rw_ wa (nI nt) rk rb cn br sm as_ go sh_ ir oa ob th ig sp_ ki tg of_ kp sf rs), (aI g fd 500 fb), (aI g to_ 25 tl), (aI g rk 7 (upd rkj3 6 ((rkj3 6) + 1))), (aI g rb 36 rbj), (aM g cn 7 (he_ro 7 r3)), (aM g br 7 (he_ro 7 r4))] ++ he_pl g L ln (va_up Mj (r4 nt) (upd (Mj (r4 nt)) i3 (rbj i3)))) H := hP
                                          have hD : va_D A ([(oX11 m0 0 0 (nI n) fg (nI kj) fj fg cj fd rfm rt_ to_ rw_ wa (nI nt) rk rb cn br sm as_ go sh_ ir oa ob th ig sp_ ki tg of_ kp sf rs), (aI g fd 500 fb), (aI g to_ 25 tl), (aI g rk 7 (upd rkj3 6 ((rkj3 6) + 1))), (aI g rb 36 rbj), (aM g cn 7 (he_ro 7 r3)), (aM g br 7 (he_ro 7 r4))] ++ he_pl g L ln (va_up Mj (r4 nt) (upd (Mj (r4 nt)) i3 (rbj i3)))) := hD
                                          refine lv_iinc (v := nI (i3 + 1)) (lv' := [(2, .int (nI (i3 + 1))), (0, .ref m0), (1, .int (nI n))]) hx hb dX11_contract_265 hl (k := 2) rfl (nI_1 i3) (by decide) rfl (fun ls hl => ?_)
                                          refine lv_goto (tgt := 217) hx hb dX11_contract_268 (by decide) ?_
                                          exact ih217 (i3 + 1) (upd rkj3 6 ((rkj3 6) + 1)) (va_up Mj (r4 nt) (upd (Mj (r4 nt)) i3 (rbj i3))) (by omega) (by omega) (cOk_upd hck (fun e9 => absurd e9 (by decide)) (fun e9 => absurd e9 (by decide)) (fun e9 => absurd e9 (by decide))) hbk (rFill_s hy) _ _ _ hP hD hS (lv_sub hl [1, 2, 0] rfl)
                                        · refine lv_iconst (v := 0) hx hb dX11_contract_258 (by decide) ?_
                                          refine lv_goto (tgt := 263) hx hb dX11_contract_259 (by decide) ?_
                                          refine lv_iadd hx hb dX11_contract_263 ?_
                                          refine he_iast hx hb hK hP hD hS 3 rfl (6) (by decide) (by decide) (by first | decide | assumption) dX11_contract_264 (fun H locs hP hD hS => ?_)
                                          have hP : va_P g.1 vwCl ([(oX11 m0 0 0 (nI n) fg (nI kj) fj fg cj fd rfm rt_ to_ rw_ wa (nI nt) rk rb cn br sm as_ go sh_ ir oa ob th ig sp_ ki tg of_ kp sf rs), (aI g fd 500 fb), (aI g to_ 25 tl), (aI g rk 7 (upd rkj3 6 ((rkj3 6) + 0))), (aI g rb 36 rbj), (aM g cn 7 (he_ro 7 r3)), (aM g br 7 (he_ro 7 r4))] ++ he_pl g L ln (va_up Mj (r4 nt) (upd (Mj (r4 nt)) i3 (rbj i3)))) H := hP
                                          have hD : va_D A ([(oX11 m0 0 0 (nI n) fg (nI kj) fj fg cj fd rfm rt_ to_ rw_ wa (nI nt) rk rb cn br sm as_ go sh_ ir oa ob th ig sp_ ki tg of_ kp sf rs), (aI g fd 500 fb), (aI g to_ 25 tl), (aI g rk 7 (upd rkj3 6 ((rkj3 6) + 0))), (aI g rb 36 rbj), (aM g cn 7 (he_ro 7 r3)), (aM g br 7 (he_ro 7 r4))] ++ he_pl g L ln (va_up Mj (r4 nt) (upd (Mj (r4 nt)) i3 (rbj i3)))) := hD
                                          refine lv_iinc (v := nI (i3 + 1)) (lv' := [(2, .int (nI (i3 + 1))), (0, .ref m0), (1, .int (nI n))]) hx hb dX11_contract_265 hl (k := 2) rfl (nI_1 i3) (by decide) rfl (fun ls hl => ?_)
                                          refine lv_goto (tgt := 217) hx hb dX11_contract_268 (by decide) ?_
                                          exact ih217 (i3 + 1) (upd rkj3 6 ((rkj3 6) + 0)) (va_up Mj (r4 nt) (upd (Mj (r4 nt)) i3 (rbj i3))) (by omega) (by omega) (cOk_upd hck (fun e9 => absurd e9 (by decide)) (fun e9 => absurd e9 (by decide)) (fun e9 => absurd e9 (by decide))) hbk (rFill_s hy) _ _ _ hP hD hS (lv_sub hl [1, 2, 0] rfl)
                                  exact loop217 ((36 - 0) + 1) 0 (upd rkj 1 (rkj 1)) M (Nat.lt_succ_self _) (Nat.zero_le _) (cOk_upd (hcb hf0).1 (fun e9 => absurd e9 (by decide)) (fun e9 => absurd e9 (by decide)) (fun e9 => absurd e9 (by decide))) (hcb hf0).2 (rFill_0 _ _ _) _ _ _ hP hD hS (lv_sub hl [1, 2, 0] rfl)
                                · refine lv_aload_n hx hb dX11_contract_199 rfl (lv_at hl 0 rfl) ?_
                                  refine va_get (v := .ref rk) (T := TX11) (N := 35) hx hb hts inX11 hown hK hP 0 rfl rfl 15 (by decide) f34 (fun _ h9 => h9) rfl dX11_contract_200 ?_
                                  refine lv_iconst (v := 0) hx hb dX11_contract_203 (by decide) ?_
                                  refine he_iald hx hb hK hP 3 rfl (0) (by decide) (by decide) (by first | decide | assumption) (rkj 0) rfl dX11_contract_204 ?_
                                  refine lv_goto (tgt := 214) hx hb dX11_contract_205 (by decide) ?_
                                  refine he_iast hx hb hK hP hD hS 3 rfl (1) (by decide) (by decide) (by first | decide | assumption) dX11_contract_214 (fun H locs hP hD hS => ?_)
                                  have hP : va_P g.1 vwCl ([(oX11 m0 0 0 (nI n) fg (nI kj) fj fg cj fd rfm rt_ to_ rw_ wa (nI nt) rk rb cn br sm as_ go sh_ ir oa ob th ig sp_ ki tg of_ kp sf rs), (aI g fd 500 fb), (aI g to_ 25 tl), (aI g rk 7 (upd rkj 1 (rkj 0))), (aI g rb 36 rbj), (aM g cn 7 (he_ro 7 r3)), (aM g br 7 (he_ro 7 r4))] ++ he_pl g L ln M) H := hP
                                  have hD : va_D A ([(oX11 m0 0 0 (nI n) fg (nI kj) fj fg cj fd rfm rt_ to_ rw_ wa (nI nt) rk rb cn br sm as_ go sh_ ir oa ob th ig sp_ ki tg of_ kp sf rs), (aI g fd 500 fb), (aI g to_ 25 tl), (aI g rk 7 (upd rkj 1 (rkj 0))), (aI g rb 36 rbj), (aM g cn 7 (he_ro 7 r3)), (aM g br 7 (he_ro 7 r4))] ++ he_pl g L ln M) := hD
                                  refine lv_iconst (v := 0) hx hb dX11_contract_215 (by decide) ?_
                                  refine lv_istore_n (lv' := [(2, .int 0), (0, .ref m0), (1, .int (nI n))]) hx hb dX11_contract_216 rfl hl (by decide) rfl (fun ls hl => ?_)
                                  have loop217 : ∀ (n9 : Nat) (i3 : Nat) (rkj3 : Nat → Int32) (Mj : Nat → Nat → Int32), 36 - i3 < n9 → (i3 ≤ 36) → (cOk rkj3) → (bOk rbj) → (rFill (r4 nt) rbj M Mj i3) → ∀ (H : Heap) (locs : List Loc) (ls : Array Slot), va_P g.1 vwCl ([(oX11 m0 0 0 (nI n) fg (nI kj) fj fg cj fd rfm rt_ to_ rw_ wa (nI nt) rk rb cn br sm as_ go sh_ ir oa ob th ig sp_ ki tg of_ kp sf rs), (aI g fd 500 fb), (aI g to_ 25 tl), (aI g rk 7 rkj3), (aI g rb 36 rbj), (aM g cn 7 (he_ro 7 r3)), (aM g br 7 (he_ro 7 r4))] ++ he_pl g L ln Mj) H → va_D A ([(oX11 m0 0 0 (nI n) fg (nI kj) fj fg cj fd rfm rt_ to_ rw_ wa (nI nt) rk rb cn br sm as_ go sh_ ir oa ob th ig sp_ ki tg of_ kp sf rs), (aI g fd 500 fb), (aI g to_ 25 tl), (aI g rk 7 rkj3), (aI g rb 36 rbj), (aM g cn 7 (he_ro 7 r3)), (aM g br 7 (he_ro 7 r4))] ++ he_pl g L ln Mj) → va_S A s.heap H locs → lv_has ls 3 [(0, .ref m0), (1, .int (nI n)), (2, .int (nI i3))] → W p l e (he_room 5 112 0 0) s m args below meth c H locs 0 0 Q (F0 m 217 ls []) := by
                                    intro n9
                                    induction n9 with
                                    | zero => intro i3 rkj3 Mj hm9; exact absurd hm9 (Nat.not_lt_zero _)
                                    | succ n9 ih217 =>
                                      intro i3 rkj3 Mj hm9 hi3 hck hbk hy H locs ls hP hD hS hl
                                      refine lv_iload_n hx hb dX11_contract_217 rfl (lv_at hl 2 rfl) ?_
                                      refine lv_bipush (v := 36) hx hb dX11_contract_218 (by decide) ?_
                                      refine lv_icmp_ge (tgt := 271) hx hb dX11_contract_220 (by decide) (fun c_34 => ?_) (fun c_34 => ?_)
                                      · have k_35 : 36 ≤ i3 := (he_cle (a := 36) (b := i3) (by decide) rfl (by omega) (by omega)).mp c_34
                                        obtain rfl : i3 = 36 := by omega
                                        refine lv_iconst (v := 0) hx hb dX11_contract_271 (by decide) ?_
                                        refine lv_istore_n (lv' := [(2, .int 0), (0, .ref m0), (1, .int (nI n))]) hx hb dX11_contract_272 rfl hl (by decide) rfl (fun ls hl => ?_)
                                        have loop273 : ∀ (n9 : Nat) (i4 : Nat) (M7 : Nat → Nat → Int32), 7 - i4 < n9 → (i4 ≤ 7) → (rFill (r3 nt) rkj3 Mj M7 i4) → ∀ (H : Heap) (locs : List Loc) (ls : Array Slot), va_P g.1 vwCl ([(oX11 m0 0 0 (nI n) fg (nI kj) fj fg cj fd rfm rt_ to_ rw_ wa (nI nt) rk rb cn br sm as_ go sh_ ir oa ob th ig sp_ ki tg of_ kp sf rs), (aI g fd 500 fb), (aI g to_ 25 tl), (aI g rk 7 rkj3), (aI g rb 36 rbj), (aM g cn 7 (he_ro 7 r3)), (aM g br 7 (he_ro 7 r4))] ++ he_pl g L ln M7) H → va_D A ([(oX11 m0 0 0 (nI n) fg (nI kj) fj fg cj fd rfm rt_ to_ rw_ wa (nI nt) rk rb cn br sm as_ go sh_ ir oa ob th ig sp_ ki tg of_ kp sf rs), (aI g fd 500 fb), (aI g to_ 25 tl), (aI g rk 7 rkj3), (aI g rb 36 rbj), (aM g cn 7 (he_ro 7 r3)), (aM g br 7 (he_ro 7 r4))] ++ he_pl g L ln M7) → va_S A s.heap H locs → lv_has ls 3 [(0, .ref m0), (1, .int (nI n)), (2, .int (nI i4))] → W p l e (he_room 5 112 0 0) s m args below meth c H locs 0 0 Q (F0 m 273 ls []) := by
                                          intro n9
                                          induction n9 with
                                          | zero => intro i4 M7 hm9; exact absurd hm9 (Nat.not_lt_zero _)
                                          | succ n9 ih273 =>
                                            intro i4 M7 hm9 hi4 hz H locs ls hP hD hS hl
                                            refine lv_iload_n hx hb dX11_contract_273 rfl (lv_at hl 2 rfl) ?_
                                            refine lv_bipush (v := 7) hx hb dX11_contract_274 (by decide) ?_
                                            refine lv_icmp_ge (tgt := 302) hx hb dX11_contract_276 (by decide) (fun c_36 => ?_) (fun c_36 => ?_)
                                            · have k_37 : 7 ≤ i4 := (he_cle (a := 7) (b := i4) (by decide) rfl (by omega) (by omega)).mp c_36
                                              obtain rfl : i4 = 7 := by omega
                                              refine lv_aload_n hx hb dX11_contract_302 rfl (lv_at hl 0 rfl) ?_
                                              refine lv_dup hx hb dX11_contract_303 rfl ?_
                                              refine va_get (v := .int (nI nt)) (T := TX11) (N := 35) hx hb hts inX11 hown hK hP 0 rfl rfl 14 (by decide) f162 (fun _ h9 => h9) rfl dX11_contract_304 ?_
                                              refine lv_iconst (v := 1) hx hb dX11_contract_307 (by decide) ?_
                                              refine lv_iadd hx hb dX11_contract_308 ?_
                                              refine he_top (nI (nt + 1)) (nI_add nt 1) ?_
                                              refine va_put (v := .int (nI (nt + 1))) (ty := .int) (T := TX11) (N := 35) hx hb hts inX11 tyX11 tyX11_ok nmX11 hown hK hP hD hS 0 rfl rfl 14 (by decide) f162 (fun _ h9 => h9) rfl (by decide +kernel) rfl rfl (Nat.le_of_ble_eq_true rfl) dX11_contract_309 (fun H locs hP hD hS => ?_)
                                              have hP : va_P g.1 vwCl ([(oX11 m0 0 0 (nI n) fg (nI kj) fj fg cj fd rfm rt_ to_ rw_ wa (nI (nt + 1)) rk rb cn br sm as_ go sh_ ir oa ob th ig sp_ ki tg of_ kp sf rs), (aI g fd 500 fb), (aI g to_ 25 tl), (aI g rk 7 rkj3), (aI g rb 36 rbj), (aM g cn 7 (he_ro 7 r3)), (aM g br 7 (he_ro 7 r4))] ++ he_pl g L ln M7) H := hP
                                              have hD : va_D A ([(oX11 m0 0 0 (nI n) fg (nI kj) fj fg cj fd rfm rt_ to_ rw_ wa (nI (nt + 1)) rk rb cn br sm as_ go sh_ ir oa ob th ig sp_ ki tg of_ kp sf rs), (aI g fd 500 fb), (aI g to_ 25 tl), (aI g rk 7 rkj3), (aI g rb 36 rbj), (aM g cn 7 (he_ro 7 r3)), (aM g br 7 (he_ro 7 r4))] ++ he_pl g L ln M7) := hD
                                              refine lv_aload_n hx hb dX11_contract_312 rfl (lv_at hl 0 rfl) ?_
                                              refine va_get (v := .int (nI (nt + 1))) (T := TX11) (N := 35) hx hb hts inX11 hown hK hP 0 rfl rfl 14 (by decide) f162 (fun _ h9 => h9) rfl dX11_contract_313 ?_
                                              refine lv_iconst (v := 1) hx hb dX11_contract_316 (by decide) ?_
                                              refine lv_isub hx hb dX11_contract_317 ?_
                                              refine he_top (nI nt) (nI_pred nt) ?_
                                              exact he_ri hQ hx hb hr hlk hP hD hS dX11_contract_318 (Nat.le_of_ble_eq_true rfl) (Nat.le_of_ble_eq_true rfl) ((nt + 1, kj, fj, fg, cj, fg, rkj3, rbj, M7)) (rfl) (by (try dsimp only); exact ⟨by (try dsimp only); omega, Or.inr ⟨by (try dsimp only); omega, rfl, cOk_eq hck (fun b hb => hz.1 b (by (try dsimp only); omega)), bOk_eq hbk (fun b hb => by (try dsimp only); rw [hz.2 _ (fun h9 => D_r3_r4 nt nt (by (try dsimp only); omega) (by (try dsimp only); omega) h9.symm)]; exact hy.1 b (by (try dsimp only); omega)), fun a h1 h2 => by (try dsimp only); rw [hz.2 a h1, hy.2 a h2], hf0, rfl⟩⟩)
                                            · have k_38 : ¬ (7 ≤ i4) := fun h9 => c_36 ((he_cle (a := 7) (b := i4) (by decide) rfl (by omega) (by omega)).mpr h9)
                                              refine lv_aload_n hx hb dX11_contract_279 rfl (lv_at hl 0 rfl) ?_
                                              refine va_get (v := .ref cn) (T := TX11) (N := 35) hx hb hts inX11 hown hK hP 0 rfl rfl 17 (by decide) f40 (fun _ h9 => h9) rfl dX11_contract_280 ?_
                                              refine lv_aload_n hx hb dX11_contract_283 rfl (lv_at hl 0 rfl) ?_
                                              refine va_get (v := .int (nI nt)) (T := TX11) (N := 35) hx hb hts inX11 hown hK hP 0 rfl rfl 14 (by decide) f162 (fun _ h9 => h9) rfl dX11_contract_284 ?_
                                              refine he_aldm hx hb hK hP 5 rfl (nt) rfl (by first | assumption | decide | omega) (by decide) dX11_contract_287 ?_
                                              refine lv_iload_n hx hb dX11_contract_288 rfl (lv_at hl 2 rfl) ?_
                                              refine lv_aload_n hx hb dX11_contract_289 rfl (lv_at hl 0 rfl) ?_
                                              refine va_get (v := .ref rk) (T := TX11) (N := 35) hx hb hts inX11 hown hK hP 0 rfl rfl 15 (by decide) f34 (fun _ h9 => h9) rfl dX11_contract_290 ?_
                                              refine lv_iload_n hx hb dX11_contract_293 rfl (lv_at hl 2 rfl) ?_
                                              refine he_iald hx hb hK hP 3 rfl (i4) rfl (by first | assumption | decide | omega) (by first | decide | assumption) (rkj3 i4) rfl dX11_contract_294 ?_
                                              refine he_past hx hb hK hP hD hS (F_r3 nt (by first | assumption | decide | omega)).1 (i4) rfl (by rw [(F_r3 nt (by first | assumption | decide | omega)).2.1]; exact (by first | assumption | decide | omega)) (by rw [(F_r3 nt (by first | assumption | decide | omega)).2.1]; decide) dX11_contract_295 (fun H locs hP hD hS => ?_)
                                              have hP : va_P g.1 vwCl ([(oX11 m0 0 0 (nI n) fg (nI kj) fj fg cj fd rfm rt_ to_ rw_ wa (nI nt) rk rb cn br sm as_ go sh_ ir oa ob th ig sp_ ki tg of_ kp sf rs), (aI g fd 500 fb), (aI g to_ 25 tl), (aI g rk 7 rkj3), (aI g rb 36 rbj), (aM g cn 7 (he_ro 7 r3)), (aM g br 7 (he_ro 7 r4))] ++ he_pl g L ln (va_up M7 (r3 nt) (upd (M7 (r3 nt)) i4 (rkj3 i4)))) H := hP
                                              have hD : va_D A ([(oX11 m0 0 0 (nI n) fg (nI kj) fj fg cj fd rfm rt_ to_ rw_ wa (nI nt) rk rb cn br sm as_ go sh_ ir oa ob th ig sp_ ki tg of_ kp sf rs), (aI g fd 500 fb), (aI g to_ 25 tl), (aI g rk 7 rkj3), (aI g rb 36 rbj), (aM g cn 7 (he_ro 7 r3)), (aM g br 7 (he_ro 7 r4))] ++ he_pl g L ln (va_up M7 (r3 nt) (upd (M7 (r3 nt)) i4 (rkj3 i4)))) := hD
                                              refine lv_iinc (v := nI (i4 + 1)) (lv' := [(2, .int (nI (i4 + 1))), (0, .ref m0), (1, .int (nI n))]) hx hb dX11_contract_296 hl (k := 2) rfl (nI_1 i4) (by decide) rfl (fun ls hl => ?_)
                                              refine lv_goto (tgt := 273) hx hb dX11_contract_299 (by decide) ?_
                                              exact ih273 (i4 + 1) (va_up M7 (r3 nt) (upd (M7 (r3 nt)) i4 (rkj3 i4))) (by omega) (by omega) (rFill_s hz) _ _ _ hP hD hS (lv_sub hl [1, 2, 0] rfl)
                                        exact loop273 ((7 - 0) + 1) 0 Mj (Nat.lt_succ_self _) (Nat.zero_le _) (rFill_0 _ _ _) _ _ _ hP hD hS (lv_sub hl [1, 2, 0] rfl)
                                      · have k_39 : ¬ (36 ≤ i3) := fun h9 => c_34 ((he_cle (a := 36) (b := i3) (by decide) rfl (by omega) (by omega)).mpr h9)
                                        refine lv_aload_n hx hb dX11_contract_223 rfl (lv_at hl 0 rfl) ?_
                                        refine va_get (v := .ref br) (T := TX11) (N := 35) hx hb hts inX11 hown hK hP 0 rfl rfl 18 (by decide) f43 (fun _ h9 => h9) rfl dX11_contract_224 ?_
                                        refine lv_aload_n hx hb dX11_contract_227 rfl (lv_at hl 0 rfl) ?_
                                        refine va_get (v := .int (nI nt)) (T := TX11) (N := 35) hx hb hts inX11 hown hK hP 0 rfl rfl 14 (by decide) f162 (fun _ h9 => h9) rfl dX11_contract_228 ?_
                                        refine he_aldm hx hb hK hP 6 rfl (nt) rfl (by first | assumption | decide | omega) (by decide) dX11_contract_231 ?_
                                        refine lv_iload_n hx hb dX11_contract_232 rfl (lv_at hl 2 rfl) ?_
                                        refine lv_aload_n hx hb dX11_contract_233 rfl (lv_at hl 0 rfl) ?_
                                        refine va_get (v := .ref rb) (T := TX11) (N := 35) hx hb hts inX11 hown hK hP 0 rfl rfl 16 (by decide) f37 (fun _ h9 => h9) rfl dX11_contract_234 ?_
                                        refine lv_iload_n hx hb dX11_contract_237 rfl (lv_at hl 2 rfl) ?_
                                        refine he_iald hx hb hK hP 4 rfl (i3) rfl (by first | assumption | decide | omega) (by first | decide | assumption) (rbj i3) rfl dX11_contract_238 ?_
                                        refine he_past hx hb hK hP hD hS (F_r4 nt (by first | assumption | decide | omega)).1 (i3) rfl (by rw [(F_r4 nt (by first | assumption | decide | omega)).2.1]; exact (by first | assumption | decide | omega)) (by rw [(F_r4 nt (by first | assumption | decide | omega)).2.1]; decide) dX11_contract_239 (fun H locs hP hD hS => ?_)
                                        have hP : va_P g.1 vwCl ([(oX11 m0 0 0 (nI n) fg (nI kj) fj fg cj fd rfm rt_ to_ rw_ wa (nI nt) rk rb cn br sm as_ go sh_ ir oa ob th ig sp_ ki tg of_ kp sf rs), (aI g fd 500 fb), (aI g to_ 25 tl), (aI g rk 7 rkj3), (aI g rb 36 rbj), (aM g cn 7 (he_ro 7 r3)), (aM g br 7 (he_ro 7 r4))] ++ he_pl g L ln (va_up Mj (r4 nt) (upd (Mj (r4 nt)) i3 (rbj i3)))) H := hP
                                        have hD : va_D A ([(oX11 m0 0 0 (nI n) fg (nI kj) fj fg cj fd rfm rt_ to_ rw_ wa (nI nt) rk rb cn br sm as_ go sh_ ir oa ob th ig sp_ ki tg of_ kp sf rs), (aI g fd 500 fb), (aI g to_ 25 tl), (aI g rk 7 rkj3), (aI g rb 36 rbj), (aM g cn 7 (he_ro 7 r3)), (aM g br 7 (he_ro 7 r4))] ++ he_pl g L ln (va_up Mj (r4 nt) (upd (Mj (r4 nt)) i3 (rbj i3)))) := hD
                                        refine lv_aload_n hx hb dX11_contract_240 rfl (lv_at hl 0 rfl) ?_
                                        refine va_get (v := .ref rk) (T := TX11) (N := 35) hx hb hts inX11 hown hK hP 0 rfl rfl 15 (by decide) f34 (fun _ h9 => h9) rfl dX11_contract_241 ?_
                                        refine lv_bipush (v := 6) hx hb dX11_contract_244 (by decide) ?_
                                        refine lv_dup2_11 hx hb dX11_contract_246 rfl rfl ?_
                                        refine he_iald hx hb hK hP 3 rfl (6) (by decide) (by decide) (by first | decide | assumption) (rkj3 6) rfl dX11_contract_247 ?_
                                        refine lv_aload_n hx hb dX11_contract_248 rfl (lv_at hl 0 rfl) ?_
                                        refine va_get (v := .ref rb) (T := TX11) (N := 35) hx hb hts inX11 hown hK hP 0 rfl rfl 16 (by decide) f37 (fun _ h9 => h9) rfl dX11_contract_249 ?_
                                        refine lv_iload_n hx hb dX11_contract_252 rfl (lv_at hl 2 rfl) ?_
                                        refine he_iald hx hb hK hP 4 rfl (i3) rfl (by first | assumption | decide | omega) (by first | decide | assumption) (rbj i3) rfl dX11_contract_253 ?_
                                        refine lv_iconst (v := (-1)) hx hb dX11_contract_254 (by decide) ?_
                                        refine lv_icmp_ne (tgt := 262) hx hb dX11_contract_255 (by decide) (fun c_40 => ?_) (fun c_40 => ?_)
                                        · refine lv_iconst (v := 1) hx hb dX11_contract_262 (by decide) ?_
                                          refine lv_iadd hx hb dX11_contract_263 ?_
                                          refine he_iast hx hb hK hP hD hS 3 rfl (6) (by decide) (by decide) (by first | decide | assumption) dX11_contract_264 (fun H locs hP hD hS => ?_)
                                          have hP : va_P g.1 vwCl ([(oX11 m0 0 0 (nI n) fg (nI kj) fj fg cj fd rfm rt_ to_ rw_ wa (nI nt) rk rb cn br sm as_ go sh_ ir oa ob th ig sp_ ki tg of_ kp sf rs), (aI g fd 500 fb), (aI g to_ 25 tl), (aI g rk 7 (upd rkj3 6 ((rkj3 6) + 1))), (aI g rb 36 rbj), (aM g cn 7 (he_ro 7 r3)), (aM g br 7 (he_ro 7 r4))] ++ he_pl g L ln (va_up Mj (r4 nt) (upd (Mj (r4 nt)) i3 (rbj i3)))) H := hP
                                          have hD : va_D A ([(oX11 m0 0 0 (nI n) fg (nI kj) fj fg cj fd rfm rt_ to_ rw_ wa (nI nt) rk rb cn br sm as_ go sh_ ir oa ob th ig sp_ ki tg of_ kp sf rs), (aI g fd 500 fb), (aI g to_ 25 tl), (aI g rk 7 (upd rkj3 6 ((rkj3 6) + 1))), (aI g rb 36 rbj), (aM g cn 7 (he_ro 7 r3)), (aM g br 7 (he_ro 7 r4))] ++ he_pl g L ln (va_up Mj (r4 nt) (upd (Mj (r4 nt)) i3 (rbj i3)))) := hD
                                          refine lv_iinc (v := nI (i3 + 1)) (lv' := [(2, .int (nI (i3 + 1))), (0, .ref m0), (1, .int (nI n))]) hx hb dX11_contract_265 hl (k := 2) rfl (nI_1 i3) (by decide) rfl (fun ls hl => ?_)
                                          refine lv_goto (tgt := 217) hx hb dX11_contract_268 (by decide) ?_
                                          exact ih217 (i3 + 1) (upd rkj3 6 ((rkj3 6) + 1)) (va_up Mj (r4 nt) (upd (Mj (r4 nt)) i3 (rbj i3))) (by omega) (by omega) (cOk_upd hck (fun e9 => absurd e9 (by decide)) (fun e9 => absurd e9 (by decide)) (fun e9 => absurd e9 (by decide))) hbk (rFill_s hy) _ _ _ hP hD hS (lv_sub hl [1, 2, 0] rfl)
                                        · refine lv_iconst (v := 0) hx hb dX11_contract_258 (by decide) ?_
                                          refine lv_goto (tgt := 263) hx hb dX11_contract_259 (by decide) ?_
                                          refine lv_iadd hx hb dX11_contract_263 ?_
                                          refine he_iast hx hb hK hP hD hS 3 rfl (6) (by decide) (by decide) (by first | decide | assumption) dX11_contract_264 (fun H locs hP hD hS => ?_)
                                          have hP : va_P g.1 vwCl ([(oX11 m0 0 0 (nI n) fg (nI kj) fj fg cj fd rfm rt_ to_ rw_ wa (nI nt) rk rb cn br sm as_ go sh_ ir oa ob th ig sp_ ki tg of_ kp sf rs), (aI g fd 500 fb), (aI g to_ 25 tl), (aI g rk 7 (upd rkj3 6 ((rkj3 6) + 0))), (aI g rb 36 rbj), (aM g cn 7 (he_ro 7 r3)), (aM g br 7 (he_ro 7 r4))] ++ he_pl g L ln (va_up Mj (r4 nt) (upd (Mj (r4 nt)) i3 (rbj i3)))) H := hP
                                          have hD : va_D A ([(oX11 m0 0 0 (nI n) fg (nI kj) fj fg cj fd rfm rt_ to_ rw_ wa (nI nt) rk rb cn br sm as_ go sh_ ir oa ob th ig sp_ ki tg of_ kp sf rs), (aI g fd 500 fb), (aI g to_ 25 tl), (aI g rk 7 (upd rkj3 6 ((rkj3 6) + 0))), (aI g rb 36 rbj), (aM g cn 7 (he_ro 7 r3)), (aM g br 7 (he_ro 7 r4))] ++ he_pl g L ln (va_up Mj (r4 nt) (upd (Mj (r4 nt)) i3 (rbj i3)))) := hD
                                          refine lv_iinc (v := nI (i3 + 1)) (lv' := [(2, .int (nI (i3 + 1))), (0, .ref m0), (1, .int (nI n))]) hx hb dX11_contract_265 hl (k := 2) rfl (nI_1 i3) (by decide) rfl (fun ls hl => ?_)
                                          refine lv_goto (tgt := 217) hx hb dX11_contract_268 (by decide) ?_
                                          exact ih217 (i3 + 1) (upd rkj3 6 ((rkj3 6) + 0)) (va_up Mj (r4 nt) (upd (Mj (r4 nt)) i3 (rbj i3))) (by omega) (by omega) (cOk_upd hck (fun e9 => absurd e9 (by decide)) (fun e9 => absurd e9 (by decide)) (fun e9 => absurd e9 (by decide))) hbk (rFill_s hy) _ _ _ hP hD hS (lv_sub hl [1, 2, 0] rfl)
                                  exact loop217 ((36 - 0) + 1) 0 (upd rkj 1 (rkj 0)) M (Nat.lt_succ_self _) (Nat.zero_le _) (cOk_upd (hcb hf0).1 (fun e9 => absurd e9 (by decide)) (fun e9 => absurd e9 (by decide)) (fun e9 => absurd e9 (by decide))) (hcb hf0).2 (rFill_0 _ _ _) _ _ _ hP hD hS (lv_sub hl [1, 2, 0] rfl)
                              · exact absurd c_21 c_25
                            · have k_41 : ¬ (n ≤ kj) := fun h9 => c_23 ((he_cle (a := n) (b := kj) rfl rfl (by omega) (by omega)).mpr h9)
                              refine lv_aload_n hx hb dX11_contract_150 rfl (lv_at hl 0 rfl) ?_
                              refine he_cv (wc := [(oX11 m0 0 0 (nI n) (-1) (nI kj) fj fg cj fd rfm rt_ to_ rw_ wa (nI nt) rk rb cn br sm as_ go sh_ ir oa ob th ig sp_ ki tg of_ kp sf rs), (aI g fd 500 fb), (aI g to_ 25 tl), (aI g rk 7 rkj), (aI g rb 36 rbj)]) (wr := ([(aM g cn 7 (he_ro 7 r3)), (aM g br 7 (he_ro 7 r4))] ++ (he_pl g L ln M))) (va_runV (As := []) (rest := []) ⟨hx, hb, hml, hown, hts⟩ (h_X11_rules l g m0 fd rfm rt_ to_ rw_ wa rk rb cn br sm as_ go sh_ ki tg of_ kp rs 0 (-1) (nI nt) ir oa ob th ig sp_ sf 0 n kj fj fg cj fb tl rkj rbj w (by omega) hkj c_21 htl hw6 (hcb c_21).1 (hcb c_21).2 H.size) (cwV 0 hts gX11_contract_X11_rules rfl rfl rfl (by decide +kernel) ⟨Nat.le_of_ble_eq_true rfl, Nat.le_of_ble_eq_true rfl⟩) (he_preV (wc := [(oX11 m0 0 0 (nI n) (-1) (nI kj) fj fg cj fd rfm rt_ to_ rw_ wa (nI nt) rk rb cn br sm as_ go sh_ ir oa ob th ig sp_ ki tg of_ kp sf rs), (aI g fd 500 fb), (aI g to_ 25 tl), (aI g rk 7 rkj), (aI g rb 36 rbj)]) hK hP hD hS hA hE [0, 1, 2, 3, 4] rfl rfl 0 rfl rfl) rfl rfl hl.1 rfl (lv_room (Nat.le_of_ble_eq_true rfl)) dX11_contract_151 ⟨(Nat.le_of_ble_eq_true rfl), (Nat.le_of_ble_eq_true rfl)⟩) hP hD hS hA [0, 1, 2, 3, 4] (he_is [5, 6] [(oX11 m0 0 0 (nI n) (-1) (nI kj) fj fg cj fd rfm rt_ to_ rw_ wa (nI nt) rk rb cn br sm as_ go sh_ ir oa ob th ig sp_ ki tg of_ kp sf rs), (aI g fd 500 fb), (aI g to_ 25 tl), (aI g rk 7 rkj), (aI g rb 36 rbj), (aM g cn 7 (he_ro 7 r3)), (aM g br 7 (he_ro 7 r4))] (he_pl g L ln M)) rfl (he_ixP rfl) (he_ndP rfl rfl) (he_disN (by decide) rfl) (fun u_43 H locs h_44 hP hD hS => ?_)
                              have hP := va_P.swap hP
                              have hD := va_D.swap hD
                              obtain ⟨k2_45, fb2_46, fw2_47, cs2_48, rk2_49, rb2_50⟩ := u_43
                              try dsimp only at h_44
                              obtain ⟨hf_51, hf_52, hf_53, hf_54⟩ := h_44
                              have hP : va_P g.1 vwCl ([(aM g cn 7 (he_ro 7 r3)), (aM g br 7 (he_ro 7 r4)), (oX11 m0 0 0 (nI n) (-1) (nI k2_45) fb2_46 fw2_47 cs2_48 fd rfm rt_ to_ rw_ wa (nI nt) rk rb cn br sm as_ go sh_ ir oa ob th ig sp_ ki tg of_ kp sf rs), (aI g fd 500 fb), (aI g to_ 25 tl), (aI g rk 7 rk2_49), (aI g rb 36 rb2_50)] ++ he_pl g L ln M) H := hP
                              have hD : va_D A ([(aM g cn 7 (he_ro 7 r3)), (aM g br 7 (he_ro 7 r4)), (oX11 m0 0 0 (nI n) (-1) (nI k2_45) fb2_46 fw2_47 cs2_48 fd rfm rt_ to_ rw_ wa (nI nt) rk rb cn br sm as_ go sh_ ir oa ob th ig sp_ ki tg of_ kp sf rs), (aI g fd 500 fb), (aI g to_ 25 tl), (aI g rk 7 rk2_49), (aI g rb 36 rb2_50)] ++ he_pl g L ln M) := hD
                              refine lv_aload_n hx hb dX11_contract_154 rfl (lv_at hl 0 rfl) ?_
                              refine he_cv (wc := [(oX11 m0 0 0 (nI n) (-1) (nI k2_45) fb2_46 fw2_47 cs2_48 fd rfm rt_ to_ rw_ wa (nI nt) rk rb cn br sm as_ go sh_ ir oa ob th ig sp_ ki tg of_ kp sf rs), (aI g fd 500 fb)]) (wr := ([(aM g cn 7 (he_ro 7 r3)), (aM g br 7 (he_ro 7 r4)), (aI g to_ 25 tl), (aI g rk 7 rk2_49), (aI g rb 36 rb2_50)] ++ (he_pl g L ln M))) (va_runV (As := []) (rest := []) ⟨hx, hb, hml, hown, hts⟩ (h_X11_blanks l g m0 fd rfm rt_ to_ rw_ wa rk rb cn br sm as_ go sh_ ki tg of_ kp rs 0 (-1) cs2_48 (nI nt) ir oa ob th ig sp_ sf 0 n k2_45 fb2_46 fw2_47 fb (by omega) (by first | assumption | decide | omega) H.size) (cwV 0 hts gX11_contract_X11_blanks rfl rfl rfl (by decide +kernel) ⟨Nat.le_of_ble_eq_true rfl, Nat.le_of_ble_eq_true rfl⟩) (he_preV (wc := [(oX11 m0 0 0 (nI n) (-1) (nI k2_45) fb2_46 fw2_47 cs2_48 fd rfm rt_ to_ rw_ wa (nI nt) rk rb cn br sm as_ go sh_ ir oa ob th ig sp_ ki tg of_ kp sf rs), (aI g fd 500 fb)]) hK hP hD hS hA hE [2, 3] rfl rfl 2 rfl rfl) rfl rfl hl.1 rfl (lv_room (Nat.le_of_ble_eq_true rfl)) dX11_contract_155 ⟨(Nat.le_of_ble_eq_true rfl), (Nat.le_of_ble_eq_true rfl)⟩) hP hD hS hA [2, 3] (he_is [0, 1, 4, 5, 6] [(aM g cn 7 (he_ro 7 r3)), (aM g br 7 (he_ro 7 r4)), (oX11 m0 0 0 (nI n) (-1) (nI k2_45) fb2_46 fw2_47 cs2_48 fd rfm rt_ to_ rw_ wa (nI nt) rk rb cn br sm as_ go sh_ ir oa ob th ig sp_ ki tg of_ kp sf rs), (aI g fd 500 fb), (aI g to_ 25 tl), (aI g rk 7 rk2_49), (aI g rb 36 rb2_50)] (he_pl g L ln M)) rfl (he_ixP rfl) (he_ndP rfl rfl) (he_disN (by decide) rfl) (fun u_56 H locs h_57 hP hD hS => ?_)
                              have hP := va_P.swap hP
                              have hD := va_D.swap hD
                              obtain ⟨k2_58, rfl⟩ : ∃ z, z = u_56 := ⟨_, rfl⟩
                              try dsimp only at h_57
                              obtain ⟨hf_59, hf_60⟩ := h_57
                              have hP : va_P g.1 vwCl ([(aM g cn 7 (he_ro 7 r3)), (aM g br 7 (he_ro 7 r4)), (aI g to_ 25 tl), (aI g rk 7 rk2_49), (aI g rb 36 rb2_50), (oX11 m0 0 0 (nI n) (-1) (nI k2_58) fb2_46 fw2_47 cs2_48 fd rfm rt_ to_ rw_ wa (nI nt) rk rb cn br sm as_ go sh_ ir oa ob th ig sp_ ki tg of_ kp sf rs), (aI g fd 500 fb)] ++ he_pl g L ln M) H := hP
                              have hD : va_D A ([(aM g cn 7 (he_ro 7 r3)), (aM g br 7 (he_ro 7 r4)), (aI g to_ 25 tl), (aI g rk 7 rk2_49), (aI g rb 36 rb2_50), (oX11 m0 0 0 (nI n) (-1) (nI k2_58) fb2_46 fw2_47 cs2_48 fd rfm rt_ to_ rw_ wa (nI nt) rk rb cn br sm as_ go sh_ ir oa ob th ig sp_ ki tg of_ kp sf rs), (aI g fd 500 fb)] ++ he_pl g L ln M) := hD
                              refine lv_goto (tgt := 132) hx hb dX11_contract_158 (by decide) ?_
                              have hP := he_Psub (X := [(aM g cn 7 (he_ro 7 r3)), (aM g br 7 (he_ro 7 r4)), (aI g to_ 25 tl), (aI g rk 7 rk2_49), (aI g rb 36 rb2_50), (oX11 m0 0 0 (nI n) (-1) (nI k2_58) fb2_46 fw2_47 cs2_48 fd rfm rt_ to_ rw_ wa (nI nt) rk rb cn br sm as_ go sh_ ir oa ob th ig sp_ ki tg of_ kp sf rs), (aI g fd 500 fb)]) (X2 := [(oX11 m0 0 0 (nI n) (-1) (nI k2_58) fb2_46 fw2_47 cs2_48 fd rfm rt_ to_ rw_ wa (nI nt) rk rb cn br sm as_ go sh_ ir oa ob th ig sp_ ki tg of_ kp sf rs), (aI g fd 500 fb), (aI g to_ 25 tl), (aI g rk 7 rk2_49), (aI g rb 36 rb2_50), (aM g cn 7 (he_ro 7 r3)), (aM g br 7 (he_ro 7 r4))]) (P := (he_pl g L ln M)) hP [5, 6, 2, 3, 4, 0, 1] rfl
                              have hD := he_Dsub (X := [(aM g cn 7 (he_ro 7 r3)), (aM g br 7 (he_ro 7 r4)), (aI g to_ 25 tl), (aI g rk 7 rk2_49), (aI g rb 36 rb2_50), (oX11 m0 0 0 (nI n) (-1) (nI k2_58) fb2_46 fw2_47 cs2_48 fd rfm rt_ to_ rw_ wa (nI nt) rk rb cn br sm as_ go sh_ ir oa ob th ig sp_ ki tg of_ kp sf rs), (aI g fd 500 fb)]) (X2 := [(oX11 m0 0 0 (nI n) (-1) (nI k2_58) fb2_46 fw2_47 cs2_48 fd rfm rt_ to_ rw_ wa (nI nt) rk rb cn br sm as_ go sh_ ir oa ob th ig sp_ ki tg of_ kp sf rs), (aI g fd 500 fb), (aI g to_ 25 tl), (aI g rk 7 rk2_49), (aI g rb 36 rb2_50), (aM g cn 7 (he_ro 7 r3)), (aM g br 7 (he_ro 7 r4))]) (P := (he_pl g L ln M)) hD [5, 6, 2, 3, 4, 0, 1] rfl rfl rfl
                              exact ih132 k2_58 fb2_46 fw2_47 cs2_48 rk2_49 rb2_50 (lp_meas c_21 (hf_53.imp_right (fun h9 => ⟨h9.1, by have := h9.2; omega⟩)) (by omega) hm9) (by omega) hf_54 _ _ _ hP hD hS (lv_sub hl [0, 1] rfl)
                      exact loop132 (((if 0 = 0 then n - k2_13 + 1 else 0)) + 1) k2_13 0 (-1) 0 (flF iniF rk_ 7) (flF (fun _ => -1) rb_ 36) (Nat.lt_succ_self _) (by omega) (fun _ => ⟨ini_c _, ini_b _⟩) _ _ _ hP hD hS (lv_sub hl [0, 1] rfl)
                    · have k_61 : ¬ (36 ≤ i2) := fun h9 => c_19 ((he_cle (a := 36) (b := i2) (by decide) rfl (by omega) (by omega)).mpr h9)
                      refine lv_aload_n hx hb dX11_contract_119 rfl (lv_at hl 0 rfl) ?_
                      refine va_get (v := .ref rb) (T := TX11) (N := 35) hx hb hts inX11 hown hK hP 0 rfl rfl 16 (by decide) f37 (fun _ h9 => h9) rfl dX11_contract_120 ?_
                      refine lv_iload_n hx hb dX11_contract_123 rfl (lv_at hl 2 rfl) ?_
                      refine lv_iconst (v := (-1)) hx hb dX11_contract_124 (by decide) ?_
                      refine he_iast hx hb hK hP hD hS 4 rfl (i2) rfl (by first | assumption | decide | omega) (by first | decide | assumption) dX11_contract_125 (fun H locs hP hD hS => ?_)
                      have hP : va_P g.1 vwCl ([(oX11 m0 0 0 (nI n) (-1) (nI k2_13) 0 (-1) 0 fd rfm rt_ to_ rw_ wa (nI nt) rk rb cn br sm as_ go sh_ ir oa ob th ig sp_ ki tg of_ kp sf rs), (aI g fd 500 fb), (aI g to_ 25 tl), (aI g rk 7 (flF iniF rk_ 7)), (aI g rb 36 (upd (flF (fun _ => -1) rb_ i2) i2 (-1))), (aM g cn 7 (he_ro 7 r3)), (aM g br 7 (he_ro 7 r4))] ++ he_pl g L ln M) H := hP
                      have hD : va_D A ([(oX11 m0 0 0 (nI n) (-1) (nI k2_13) 0 (-1) 0 fd rfm rt_ to_ rw_ wa (nI nt) rk rb cn br sm as_ go sh_ ir oa ob th ig sp_ ki tg of_ kp sf rs), (aI g fd 500 fb), (aI g to_ 25 tl), (aI g rk 7 (flF iniF rk_ 7)), (aI g rb 36 (upd (flF (fun _ => -1) rb_ i2) i2 (-1))), (aM g cn 7 (he_ro 7 r3)), (aM g br 7 (he_ro 7 r4))] ++ he_pl g L ln M) := hD
                      refine lv_iinc (v := nI (i2 + 1)) (lv' := [(2, .int (nI (i2 + 1))), (0, .ref m0), (1, .int (nI n))]) hx hb dX11_contract_126 hl (k := 2) rfl (nI_1 i2) (by decide) rfl (fun ls hl => ?_)
                      refine lv_goto (tgt := 113) hx hb dX11_contract_129 (by decide) ?_
                      have hP : va_P g.1 vwCl ([(oX11 m0 0 0 (nI n) (-1) (nI k2_13) 0 (-1) 0 fd rfm rt_ to_ rw_ wa (nI nt) rk rb cn br sm as_ go sh_ ir oa ob th ig sp_ ki tg of_ kp sf rs), (aI g fd 500 fb), (aI g to_ 25 tl), (aI g rk 7 (flF iniF rk_ 7)), (aI g rb 36 (flF (fun _ => -1) rb_ (i2 + 1))), (aM g cn 7 (he_ro 7 r3)), (aM g br 7 (he_ro 7 r4))] ++ he_pl g L ln M) H := by rw [← flF_s (fun _ => -1) rb_ i2]; exact hP
                      have hD : va_D A ([(oX11 m0 0 0 (nI n) (-1) (nI k2_13) 0 (-1) 0 fd rfm rt_ to_ rw_ wa (nI nt) rk rb cn br sm as_ go sh_ ir oa ob th ig sp_ ki tg of_ kp sf rs), (aI g fd 500 fb), (aI g to_ 25 tl), (aI g rk 7 (flF iniF rk_ 7)), (aI g rb 36 (flF (fun _ => -1) rb_ (i2 + 1))), (aM g cn 7 (he_ro 7 r3)), (aM g br 7 (he_ro 7 r4))] ++ he_pl g L ln M) := by rw [← flF_s (fun _ => -1) rb_ i2]; exact hD
                      exact ih113 (i2 + 1) (by omega) (by omega) _ _ _ hP hD hS (lv_sub hl [1, 2, 0] rfl)
                have hP : va_P g.1 vwCl ([(oX11 m0 0 0 (nI n) (-1) (nI k2_13) 0 (-1) 0 fd rfm rt_ to_ rw_ wa (nI nt) rk rb cn br sm as_ go sh_ ir oa ob th ig sp_ ki tg of_ kp sf rs), (aI g fd 500 fb), (aI g to_ 25 tl), (aI g rk 7 (flF iniF rk_ 7)), (aI g rb 36 (flF (fun _ => -1) rb_ 0)), (aM g cn 7 (he_ro 7 r3)), (aM g br 7 (he_ro 7 r4))] ++ he_pl g L ln M) H := by rw [flF_0]; exact hP
                have hD : va_D A ([(oX11 m0 0 0 (nI n) (-1) (nI k2_13) 0 (-1) 0 fd rfm rt_ to_ rw_ wa (nI nt) rk rb cn br sm as_ go sh_ ir oa ob th ig sp_ ki tg of_ kp sf rs), (aI g fd 500 fb), (aI g to_ 25 tl), (aI g rk 7 (flF iniF rk_ 7)), (aI g rb 36 (flF (fun _ => -1) rb_ 0)), (aM g cn 7 (he_ro 7 r3)), (aM g br 7 (he_ro 7 r4))] ++ he_pl g L ln M) := by rw [flF_0]; exact hD
                exact loop113 ((36 - 0) + 1) 0 (Nat.lt_succ_self _) (Nat.zero_le _) _ _ _ hP hD hS (lv_sub hl [1, 2, 0] rfl)
              · have k_62 : ¬ (7 ≤ i1) := fun h9 => c_17 ((he_cle (a := 7) (b := i1) (by decide) rfl (by omega) (by omega)).mpr h9)
                refine lv_aload_n hx hb dX11_contract_69 rfl (lv_at hl 0 rfl) ?_
                refine va_get (v := .ref rk) (T := TX11) (N := 35) hx hb hts inX11 hown hK hP 0 rfl rfl 15 (by decide) f34 (fun _ h9 => h9) rfl dX11_contract_70 ?_
                refine lv_iload_n hx hb dX11_contract_73 rfl (lv_at hl 2 rfl) ?_
                refine lv_iload_n hx hb dX11_contract_74 rfl (lv_at hl 2 rfl) ?_
                refine lv_iconst (v := 1) hx hb dX11_contract_75 (by decide) ?_
                refine lv_icmp_ne (tgt := 83) hx hb dX11_contract_76 (by decide) (fun c_63 => ?_) (fun c_63 => ?_)
                · have k_64 : ¬ (i1 = 1) := fun h9 => c_63 ((he_ceq (a := i1) (b := 1) rfl (by decide) (by omega) (by omega)).mpr h9)
                  refine lv_iload_n hx hb dX11_contract_83 rfl (lv_at hl 2 rfl) ?_
                  refine lv_iconst (v := 2) hx hb dX11_contract_84 (by decide) ?_
                  refine lv_icmp_ne (tgt := 93) hx hb dX11_contract_85 (by decide) (fun c_65 => ?_) (fun c_65 => ?_)
                  · have k_66 : ¬ (i1 = 2) := fun h9 => c_65 ((he_ceq (a := i1) (b := 2) rfl (by decide) (by omega) (by omega)).mpr h9)
                    refine lv_iload_n hx hb dX11_contract_93 rfl (lv_at hl 2 rfl) ?_
                    refine lv_iconst (v := 5) hx hb dX11_contract_94 (by decide) ?_
                    refine lv_icmp_ne (tgt := 103) hx hb dX11_contract_95 (by decide) (fun c_67 => ?_) (fun c_67 => ?_)
                    · have k_68 : ¬ (i1 = 5) := fun h9 => c_67 ((he_ceq (a := i1) (b := 5) rfl (by decide) (by omega) (by omega)).mpr h9)
                      refine lv_iconst (v := 0) hx hb dX11_contract_103 (by decide) ?_
                      refine he_iast hx hb hK hP hD hS 3 rfl (i1) rfl (by first | assumption | decide | omega) (by first | decide | assumption) dX11_contract_104 (fun H locs hP hD hS => ?_)
                      have hP : va_P g.1 vwCl ([(oX11 m0 0 0 (nI n) (-1) (nI k2_13) 0 (-1) 0 fd rfm rt_ to_ rw_ wa (nI nt) rk rb cn br sm as_ go sh_ ir oa ob th ig sp_ ki tg of_ kp sf rs), (aI g fd 500 fb), (aI g to_ 25 tl), (aI g rk 7 (upd (flF iniF rk_ i1) i1 0)), (aI g rb 36 rb_), (aM g cn 7 (he_ro 7 r3)), (aM g br 7 (he_ro 7 r4))] ++ he_pl g L ln M) H := hP
                      have hD : va_D A ([(oX11 m0 0 0 (nI n) (-1) (nI k2_13) 0 (-1) 0 fd rfm rt_ to_ rw_ wa (nI nt) rk rb cn br sm as_ go sh_ ir oa ob th ig sp_ ki tg of_ kp sf rs), (aI g fd 500 fb), (aI g to_ 25 tl), (aI g rk 7 (upd (flF iniF rk_ i1) i1 0)), (aI g rb 36 rb_), (aM g cn 7 (he_ro 7 r3)), (aM g br 7 (he_ro 7 r4))] ++ he_pl g L ln M) := hD
                      have hn9 : upd (flF iniF rk_ i1) i1 0 = flF iniF rk_ (i1 + 1) := (by rw [← flF_s]; congr 1; unfold iniF; (repeat' split) <;> first | rfl | omega)
                      rw [hn9] at hP hD
                      have hP : va_P g.1 vwCl ([(oX11 m0 0 0 (nI n) (-1) (nI k2_13) 0 (-1) 0 fd rfm rt_ to_ rw_ wa (nI nt) rk rb cn br sm as_ go sh_ ir oa ob th ig sp_ ki tg of_ kp sf rs), (aI g fd 500 fb), (aI g to_ 25 tl), (aI g rk 7 (flF iniF rk_ (i1 + 1))), (aI g rb 36 rb_), (aM g cn 7 (he_ro 7 r3)), (aM g br 7 (he_ro 7 r4))] ++ he_pl g L ln M) H := hP
                      have hD : va_D A ([(oX11 m0 0 0 (nI n) (-1) (nI k2_13) 0 (-1) 0 fd rfm rt_ to_ rw_ wa (nI nt) rk rb cn br sm as_ go sh_ ir oa ob th ig sp_ ki tg of_ kp sf rs), (aI g fd 500 fb), (aI g to_ 25 tl), (aI g rk 7 (flF iniF rk_ (i1 + 1))), (aI g rb 36 rb_), (aM g cn 7 (he_ro 7 r3)), (aM g br 7 (he_ro 7 r4))] ++ he_pl g L ln M) := hD
                      refine lv_iinc (v := nI (i1 + 1)) (lv' := [(2, .int (nI (i1 + 1))), (0, .ref m0), (1, .int (nI n))]) hx hb dX11_contract_105 hl (k := 2) rfl (nI_1 i1) (by decide) rfl (fun ls hl => ?_)
                      refine lv_goto (tgt := 63) hx hb dX11_contract_108 (by decide) ?_
                      exact ih63 (i1 + 1) (by omega) (by omega) _ _ _ hP hD hS (lv_sub hl [1, 2, 0] rfl)
                    · have k_69 : i1 = 5 := (he_ceq (a := i1) (b := 5) rfl (by decide) (by omega) (by omega)).mp c_67
                      refine lv_bipush (v := 36) hx hb dX11_contract_98 (by decide) ?_
                      refine lv_goto (tgt := 104) hx hb dX11_contract_100 (by decide) ?_
                      refine he_iast hx hb hK hP hD hS 3 rfl (i1) rfl (by first | assumption | decide | omega) (by first | decide | assumption) dX11_contract_104 (fun H locs hP hD hS => ?_)
                      have hP : va_P g.1 vwCl ([(oX11 m0 0 0 (nI n) (-1) (nI k2_13) 0 (-1) 0 fd rfm rt_ to_ rw_ wa (nI nt) rk rb cn br sm as_ go sh_ ir oa ob th ig sp_ ki tg of_ kp sf rs), (aI g fd 500 fb), (aI g to_ 25 tl), (aI g rk 7 (upd (flF iniF rk_ i1) i1 36)), (aI g rb 36 rb_), (aM g cn 7 (he_ro 7 r3)), (aM g br 7 (he_ro 7 r4))] ++ he_pl g L ln M) H := hP
                      have hD : va_D A ([(oX11 m0 0 0 (nI n) (-1) (nI k2_13) 0 (-1) 0 fd rfm rt_ to_ rw_ wa (nI nt) rk rb cn br sm as_ go sh_ ir oa ob th ig sp_ ki tg of_ kp sf rs), (aI g fd 500 fb), (aI g to_ 25 tl), (aI g rk 7 (upd (flF iniF rk_ i1) i1 36)), (aI g rb 36 rb_), (aM g cn 7 (he_ro 7 r3)), (aM g br 7 (he_ro 7 r4))] ++ he_pl g L ln M) := hD
                      have hn9 : upd (flF iniF rk_ i1) i1 36 = flF iniF rk_ (i1 + 1) := (by rw [← flF_s]; congr 1; unfold iniF; (repeat' split) <;> first | rfl | omega)
                      rw [hn9] at hP hD
                      have hP : va_P g.1 vwCl ([(oX11 m0 0 0 (nI n) (-1) (nI k2_13) 0 (-1) 0 fd rfm rt_ to_ rw_ wa (nI nt) rk rb cn br sm as_ go sh_ ir oa ob th ig sp_ ki tg of_ kp sf rs), (aI g fd 500 fb), (aI g to_ 25 tl), (aI g rk 7 (flF iniF rk_ (i1 + 1))), (aI g rb 36 rb_), (aM g cn 7 (he_ro 7 r3)), (aM g br 7 (he_ro 7 r4))] ++ he_pl g L ln M) H := hP
                      have hD : va_D A ([(oX11 m0 0 0 (nI n) (-1) (nI k2_13) 0 (-1) 0 fd rfm rt_ to_ rw_ wa (nI nt) rk rb cn br sm as_ go sh_ ir oa ob th ig sp_ ki tg of_ kp sf rs), (aI g fd 500 fb), (aI g to_ 25 tl), (aI g rk 7 (flF iniF rk_ (i1 + 1))), (aI g rb 36 rb_), (aM g cn 7 (he_ro 7 r3)), (aM g br 7 (he_ro 7 r4))] ++ he_pl g L ln M) := hD
                      refine lv_iinc (v := nI (i1 + 1)) (lv' := [(2, .int (nI (i1 + 1))), (0, .ref m0), (1, .int (nI n))]) hx hb dX11_contract_105 hl (k := 2) rfl (nI_1 i1) (by decide) rfl (fun ls hl => ?_)
                      refine lv_goto (tgt := 63) hx hb dX11_contract_108 (by decide) ?_
                      exact ih63 (i1 + 1) (by omega) (by omega) _ _ _ hP hD hS (lv_sub hl [1, 2, 0] rfl)
                  · have k_70 : i1 = 2 := (he_ceq (a := i1) (b := 2) rfl (by decide) (by omega) (by omega)).mp c_65
                    refine lv_bipush (v := 9) hx hb dX11_contract_88 (by decide) ?_
                    refine lv_goto (tgt := 104) hx hb dX11_contract_90 (by decide) ?_
                    refine he_iast hx hb hK hP hD hS 3 rfl (i1) rfl (by first | assumption | decide | omega) (by first | decide | assumption) dX11_contract_104 (fun H locs hP hD hS => ?_)
                    have hP : va_P g.1 vwCl ([(oX11 m0 0 0 (nI n) (-1) (nI k2_13) 0 (-1) 0 fd rfm rt_ to_ rw_ wa (nI nt) rk rb cn br sm as_ go sh_ ir oa ob th ig sp_ ki tg of_ kp sf rs), (aI g fd 500 fb), (aI g to_ 25 tl), (aI g rk 7 (upd (flF iniF rk_ i1) i1 9)), (aI g rb 36 rb_), (aM g cn 7 (he_ro 7 r3)), (aM g br 7 (he_ro 7 r4))] ++ he_pl g L ln M) H := hP
                    have hD : va_D A ([(oX11 m0 0 0 (nI n) (-1) (nI k2_13) 0 (-1) 0 fd rfm rt_ to_ rw_ wa (nI nt) rk rb cn br sm as_ go sh_ ir oa ob th ig sp_ ki tg of_ kp sf rs), (aI g fd 500 fb), (aI g to_ 25 tl), (aI g rk 7 (upd (flF iniF rk_ i1) i1 9)), (aI g rb 36 rb_), (aM g cn 7 (he_ro 7 r3)), (aM g br 7 (he_ro 7 r4))] ++ he_pl g L ln M) := hD
                    have hn9 : upd (flF iniF rk_ i1) i1 9 = flF iniF rk_ (i1 + 1) := (by rw [← flF_s]; congr 1; unfold iniF; (repeat' split) <;> first | rfl | omega)
                    rw [hn9] at hP hD
                    have hP : va_P g.1 vwCl ([(oX11 m0 0 0 (nI n) (-1) (nI k2_13) 0 (-1) 0 fd rfm rt_ to_ rw_ wa (nI nt) rk rb cn br sm as_ go sh_ ir oa ob th ig sp_ ki tg of_ kp sf rs), (aI g fd 500 fb), (aI g to_ 25 tl), (aI g rk 7 (flF iniF rk_ (i1 + 1))), (aI g rb 36 rb_), (aM g cn 7 (he_ro 7 r3)), (aM g br 7 (he_ro 7 r4))] ++ he_pl g L ln M) H := hP
                    have hD : va_D A ([(oX11 m0 0 0 (nI n) (-1) (nI k2_13) 0 (-1) 0 fd rfm rt_ to_ rw_ wa (nI nt) rk rb cn br sm as_ go sh_ ir oa ob th ig sp_ ki tg of_ kp sf rs), (aI g fd 500 fb), (aI g to_ 25 tl), (aI g rk 7 (flF iniF rk_ (i1 + 1))), (aI g rb 36 rb_), (aM g cn 7 (he_ro 7 r3)), (aM g br 7 (he_ro 7 r4))] ++ he_pl g L ln M) := hD
                    refine lv_iinc (v := nI (i1 + 1)) (lv' := [(2, .int (nI (i1 + 1))), (0, .ref m0), (1, .int (nI n))]) hx hb dX11_contract_105 hl (k := 2) rfl (nI_1 i1) (by decide) rfl (fun ls hl => ?_)
                    refine lv_goto (tgt := 63) hx hb dX11_contract_108 (by decide) ?_
                    exact ih63 (i1 + 1) (by omega) (by omega) _ _ _ hP hD hS (lv_sub hl [1, 2, 0] rfl)
                · have k_71 : i1 = 1 := (he_ceq (a := i1) (b := 1) rfl (by decide) (by omega) (by omega)).mp c_63
                  refine lv_iconst (v := (-1)) hx hb dX11_contract_79 (by decide) ?_
                  refine lv_goto (tgt := 104) hx hb dX11_contract_80 (by decide) ?_
                  refine he_iast hx hb hK hP hD hS 3 rfl (i1) rfl (by first | assumption | decide | omega) (by first | decide | assumption) dX11_contract_104 (fun H locs hP hD hS => ?_)
                  have hP : va_P g.1 vwCl ([(oX11 m0 0 0 (nI n) (-1) (nI k2_13) 0 (-1) 0 fd rfm rt_ to_ rw_ wa (nI nt) rk rb cn br sm as_ go sh_ ir oa ob th ig sp_ ki tg of_ kp sf rs), (aI g fd 500 fb), (aI g to_ 25 tl), (aI g rk 7 (upd (flF iniF rk_ i1) i1 (-1))), (aI g rb 36 rb_), (aM g cn 7 (he_ro 7 r3)), (aM g br 7 (he_ro 7 r4))] ++ he_pl g L ln M) H := hP
                  have hD : va_D A ([(oX11 m0 0 0 (nI n) (-1) (nI k2_13) 0 (-1) 0 fd rfm rt_ to_ rw_ wa (nI nt) rk rb cn br sm as_ go sh_ ir oa ob th ig sp_ ki tg of_ kp sf rs), (aI g fd 500 fb), (aI g to_ 25 tl), (aI g rk 7 (upd (flF iniF rk_ i1) i1 (-1))), (aI g rb 36 rb_), (aM g cn 7 (he_ro 7 r3)), (aM g br 7 (he_ro 7 r4))] ++ he_pl g L ln M) := hD
                  have hn9 : upd (flF iniF rk_ i1) i1 (-1) = flF iniF rk_ (i1 + 1) := (by rw [← flF_s]; congr 1; unfold iniF; (repeat' split) <;> first | rfl | omega)
                  rw [hn9] at hP hD
                  have hP : va_P g.1 vwCl ([(oX11 m0 0 0 (nI n) (-1) (nI k2_13) 0 (-1) 0 fd rfm rt_ to_ rw_ wa (nI nt) rk rb cn br sm as_ go sh_ ir oa ob th ig sp_ ki tg of_ kp sf rs), (aI g fd 500 fb), (aI g to_ 25 tl), (aI g rk 7 (flF iniF rk_ (i1 + 1))), (aI g rb 36 rb_), (aM g cn 7 (he_ro 7 r3)), (aM g br 7 (he_ro 7 r4))] ++ he_pl g L ln M) H := hP
                  have hD : va_D A ([(oX11 m0 0 0 (nI n) (-1) (nI k2_13) 0 (-1) 0 fd rfm rt_ to_ rw_ wa (nI nt) rk rb cn br sm as_ go sh_ ir oa ob th ig sp_ ki tg of_ kp sf rs), (aI g fd 500 fb), (aI g to_ 25 tl), (aI g rk 7 (flF iniF rk_ (i1 + 1))), (aI g rb 36 rb_), (aM g cn 7 (he_ro 7 r3)), (aM g br 7 (he_ro 7 r4))] ++ he_pl g L ln M) := hD
                  refine lv_iinc (v := nI (i1 + 1)) (lv' := [(2, .int (nI (i1 + 1))), (0, .ref m0), (1, .int (nI n))]) hx hb dX11_contract_105 hl (k := 2) rfl (nI_1 i1) (by decide) rfl (fun ls hl => ?_)
                  refine lv_goto (tgt := 63) hx hb dX11_contract_108 (by decide) ?_
                  exact ih63 (i1 + 1) (by omega) (by omega) _ _ _ hP hD hS (lv_sub hl [1, 2, 0] rfl)
          have hP : va_P g.1 vwCl ([(aI g to_ 25 tl), (aI g rk 7 (flF iniF rk_ 0)), (aI g rb 36 rb_), (aM g cn 7 (he_ro 7 r3)), (aM g br 7 (he_ro 7 r4)), (oX11 m0 0 0 (nI n) (-1) (nI k2_13) 0 (-1) 0 fd rfm rt_ to_ rw_ wa (nI nt) rk rb cn br sm as_ go sh_ ir oa ob th ig sp_ ki tg of_ kp sf rs), (aI g fd 500 fb)] ++ he_pl g L ln M) H := by rw [flF_0]; exact hP
          have hD : va_D A ([(aI g to_ 25 tl), (aI g rk 7 (flF iniF rk_ 0)), (aI g rb 36 rb_), (aM g cn 7 (he_ro 7 r3)), (aM g br 7 (he_ro 7 r4)), (oX11 m0 0 0 (nI n) (-1) (nI k2_13) 0 (-1) 0 fd rfm rt_ to_ rw_ wa (nI nt) rk rb cn br sm as_ go sh_ ir oa ob th ig sp_ ki tg of_ kp sf rs), (aI g fd 500 fb)] ++ he_pl g L ln M) := by rw [flF_0]; exact hD
          have hP := he_Psub (X := [(aI g to_ 25 tl), (aI g rk 7 (flF iniF rk_ 0)), (aI g rb 36 rb_), (aM g cn 7 (he_ro 7 r3)), (aM g br 7 (he_ro 7 r4)), (oX11 m0 0 0 (nI n) (-1) (nI k2_13) 0 (-1) 0 fd rfm rt_ to_ rw_ wa (nI nt) rk rb cn br sm as_ go sh_ ir oa ob th ig sp_ ki tg of_ kp sf rs), (aI g fd 500 fb)]) (X2 := [(oX11 m0 0 0 (nI n) (-1) (nI k2_13) 0 (-1) 0 fd rfm rt_ to_ rw_ wa (nI nt) rk rb cn br sm as_ go sh_ ir oa ob th ig sp_ ki tg of_ kp sf rs), (aI g fd 500 fb), (aI g to_ 25 tl), (aI g rk 7 (flF iniF rk_ 0)), (aI g rb 36 rb_), (aM g cn 7 (he_ro 7 r3)), (aM g br 7 (he_ro 7 r4))]) (P := (he_pl g L ln M)) hP [5, 6, 0, 1, 2, 3, 4] rfl
          have hD := he_Dsub (X := [(aI g to_ 25 tl), (aI g rk 7 (flF iniF rk_ 0)), (aI g rb 36 rb_), (aM g cn 7 (he_ro 7 r3)), (aM g br 7 (he_ro 7 r4)), (oX11 m0 0 0 (nI n) (-1) (nI k2_13) 0 (-1) 0 fd rfm rt_ to_ rw_ wa (nI nt) rk rb cn br sm as_ go sh_ ir oa ob th ig sp_ ki tg of_ kp sf rs), (aI g fd 500 fb)]) (X2 := [(oX11 m0 0 0 (nI n) (-1) (nI k2_13) 0 (-1) 0 fd rfm rt_ to_ rw_ wa (nI nt) rk rb cn br sm as_ go sh_ ir oa ob th ig sp_ ki tg of_ kp sf rs), (aI g fd 500 fb), (aI g to_ 25 tl), (aI g rk 7 (flF iniF rk_ 0)), (aI g rb 36 rb_), (aM g cn 7 (he_ro 7 r3)), (aM g br 7 (he_ro 7 r4))]) (P := (he_pl g L ln M)) hD [5, 6, 0, 1, 2, 3, 4] rfl rfl rfl
          exact loop63 ((7 - 0) + 1) 0 (Nat.lt_succ_self _) (Nat.zero_le _) _ _ _ hP hD hS (lv_sub hl [1, 2, 0] rfl)
        · have k_72 : nt = 6 := (he_ceq (a := nt) (b := 6) rfl (by decide) (by omega) (by omega)).mp c_15
          refine lv_iconst (v := (-1)) hx hb dX11_contract_59 (by decide) ?_
          have hP := he_Psub (X := [(aI g to_ 25 tl), (aI g rk 7 rk_), (aI g rb 36 rb_), (aM g cn 7 (he_ro 7 r3)), (aM g br 7 (he_ro 7 r4)), (oX11 m0 0 0 (nI n) (-1) (nI k2_13) 0 (-1) 0 fd rfm rt_ to_ rw_ wa (nI nt) rk rb cn br sm as_ go sh_ ir oa ob th ig sp_ ki tg of_ kp sf rs), (aI g fd 500 fb)]) (X2 := [(oX11 m0 0 0 (nI n) (-1) (nI k2_13) 0 (-1) 0 fd rfm rt_ to_ rw_ wa (nI nt) rk rb cn br sm as_ go sh_ ir oa ob th ig sp_ ki tg of_ kp sf rs), (aI g fd 500 fb), (aI g to_ 25 tl), (aI g rk 7 rk_), (aI g rb 36 rb_), (aM g cn 7 (he_ro 7 r3)), (aM g br 7 (he_ro 7 r4))]) (P := (he_pl g L ln M)) hP [5, 6, 0, 1, 2, 3, 4] rfl
          have hD := he_Dsub (X := [(aI g to_ 25 tl), (aI g rk 7 rk_), (aI g rb 36 rb_), (aM g cn 7 (he_ro 7 r3)), (aM g br 7 (he_ro 7 r4)), (oX11 m0 0 0 (nI n) (-1) (nI k2_13) 0 (-1) 0 fd rfm rt_ to_ rw_ wa (nI nt) rk rb cn br sm as_ go sh_ ir oa ob th ig sp_ ki tg of_ kp sf rs), (aI g fd 500 fb)]) (X2 := [(oX11 m0 0 0 (nI n) (-1) (nI k2_13) 0 (-1) 0 fd rfm rt_ to_ rw_ wa (nI nt) rk rb cn br sm as_ go sh_ ir oa ob th ig sp_ ki tg of_ kp sf rs), (aI g fd 500 fb), (aI g to_ 25 tl), (aI g rk 7 rk_), (aI g rb 36 rb_), (aM g cn 7 (he_ro 7 r3)), (aM g br 7 (he_ro 7 r4))]) (P := (he_pl g L ln M)) hD [5, 6, 0, 1, 2, 3, 4] rfl rfl rfl
          exact he_ri hQ hx hb hr hlk hP hD hS dX11_contract_60 (Nat.le_of_ble_eq_true rfl) (Nat.le_of_ble_eq_true rfl) ((nt, k2_13, 0, (-1), 0, (-1), rk_, rb_, M)) (rfl) (by (try dsimp only); exact ⟨by (try dsimp only); omega, Or.inl ⟨rfl, rfl, Or.inl ⟨by (try dsimp only); omega, rfl⟩⟩⟩)
      · exact absurd (by decide) c_9
    · exact absurd ((he_cle (a := n) (b := 200) rfl (by decide) (by omega) (by decide)).mpr hn2) c_5
