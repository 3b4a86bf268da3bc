/-- rows of the walls, copied: all below w, of w the first j -/
def wKp (r1 r2 : Nat → Nat) (w j : Nat) (M Mu : Nat → Nat → Int32) : Prop := (∀ i, i < w → ∀ b, b < 2 → Mu (r2 i) b = M (r1 i) b) ∧ ∀ b, b < j → Mu (r2 w) b = M (r1 w) b
section WK
variable {r1 r2 : Nat → Nat} {M Mu : Nat → Nat → Int32} {w j : Nat}
theorem wk_0 : wKp r1 r2 0 0 M Mu := ⟨fun i hi => absurd hi (Nat.not_lt_zero i), fun b hb => absurd hb (Nat.not_lt_zero b)⟩
theorem wk_s (hJ : ∀ a b, a < 6 → b < 6 → r2 a = r2 b → a = b) (hw : w < 6) (h1 : ∀ i, i < 6 → Mu (r1 i) = M (r1 i)) (h : wKp r1 r2 w j M Mu) : wKp r1 r2 w (j + 1) M (va_up Mu (r2 w) (upd (Mu (r2 w)) j (Mu (r1 w) j))) := by
  constructor
  · intro i hi b hb
    rw [mv_out (fun h9 => absurd (hJ i w (by omega) hw h9) (by omega))]
    exact h.1 i hi b hb
  · intro b hb
    rw [mv_in, h1 w hw]
    by_cases e : b = j
    · rw [e, upd_s]
    · rw [upd_n e]; exact h.2 b (by omega)
theorem wk_n (hj : 2 ≤ j) (h : wKp r1 r2 w j M Mu) : wKp r1 r2 (w + 1) 0 M Mu := by
  constructor
  · intro i hi b hb
    by_cases e : i = w
    · rw [e]; exact h.2 b (by omega)
    · exact h.1 i (by omega) b hb
  · intro b hb
    exact absurd hb (Nat.not_lt_zero b)
theorem wk_k {a : Nat} {f : Nat → Int32} (hne : ∀ q, q < w → r2 q ≠ a) (h : wKp r1 r2 w 0 M Mu) : wKp r1 r2 w 0 M (va_up Mu a f) := by
  constructor
  · intro i hi b hb
    rw [mv_out (hne i hi)]
    exact h.1 i hi b hb
  · intro b hb
    exact absurd hb (Nat.not_lt_zero b)
theorem r1_k {a : Nat} {f : Nat → Int32} (hne : ∀ q, q < 6 → r1 q ≠ a) (h : ∀ i, i < 6 → Mu (r1 i) = M (r1 i)) : ∀ i, i < 6 → va_up Mu a f (r1 i) = M (r1 i) := fun i hi => by
  rw [mv_out (hne i hi)]
  exact h i hi
theorem lw_in {b F st : Nat → Int32} {q : Nat} (h : F = lwF b st q) {v : Int32} (hv : v = st q) : upd F (12 + q) v = lwF b st (q + 1) := by rw [h, hv]; exact lwF_s b st q
/-- the walls of a text's part, in the reference's rows -/
theorem mtM_0 {q : Nat} {vs : List Nat} (hJ : ∀ a b, a < 6 → b < 6 → r1 a = r1 b → a = b) (hw : stW q w ≤ 6) : ∀ k, k < stW q w → mtM r1 q vs w M (r1 k) 0 = stT q vs w (fun i => M (r1 i) 0) k ∧ mtM r1 q vs w M (r1 k) 1 = stM q vs w (fun i => M (r1 i) 1) k := by
  unfold mtM stT stM
  unfold stW at hw ⊢
  by_cases e : q = 0
  · rw [if_pos e] at hw ⊢
    rw [if_pos e, if_pos e, if_pos e]
    intro k hk
    by_cases c : k = w
    · subst c
      rw [mv_in, mv_in, upd_s, upd_s, upd_s, upd_n (by decide), upd_s]
      exact ⟨rfl, rfl⟩
    · have hne : r1 k ≠ r1 w := fun h9 => c (hJ k w (by omega) (by omega) h9)
      rw [mv_out hne, mv_out hne, upd_n c, upd_n c]
      exact ⟨rfl, rfl⟩
  · rw [if_neg e, if_neg e, if_neg e, if_neg e]
    intro k _
    exact ⟨rfl, rfl⟩
end WK
theorem upd_cg {T T2 : Nat → Int32} {i : Nat} (h : T i = T2 i) (k : Nat) (v : Int32) : upd T k v i = upd T2 k v i := by
  by_cases e : i = k
  · rw [e, upd_s, upd_s]
  · rw [upd_n e, upd_n e]; exact h
theorem mtL_cg {i : Nat} : ∀ (vs : List Nat) (T T2 : Nat → Int32) (a : Nat), T i = T2 i → mtL T a vs i = mtL T2 a vs i
  | [], _, _, _, h => h
  | v :: L, T, T2, a, h => mtL_cg L (upd T a (nI v)) (upd T2 a (nI v)) (a + 1) (upd_cg h a (nI v))
theorem mtR_cg {i : Nat} {T T2 : Nat → Int32} (h : T i = T2 i) (q : Nat) (vs : List Nat) (w : Nat) : mtR q vs w T i = mtR q vs w T2 i := by
  unfold mtR
  split
  · exact upd_cg h _ _
  · split
    · exact upd_cg h _ _
    · exact mtL_cg vs T T2 _ h
theorem mtF_cg {i : Nat} : ∀ (L : List (Nat × List Nat)) (w : Nat) (T T2 : Nat → Int32), T i = T2 i → mtF L w T i = mtF L w T2 i
  | [], _, _, _, h => h
  | a :: L, w, T, T2, h => mtF_cg L (stW a.1 w) (mtR a.1 a.2 w T) (mtR a.1 a.2 w T2) (mtR_cg h a.1 a.2 w)
theorem tn_A (f : Nat → Int32) (i : Nat) (h1 : 0 < i) (h2 : i < 25) : tnF f i = tnA i := by
  unfold tnF lw15 tnA flF
  by_cases c : 15 ≤ i
  · rw [if_pos ⟨c, by omega⟩, if_pos c]
  · rw [if_neg (fun h9 => c h9.1), if_neg c, if_pos (by omega)]
/-- a clause on, the rows say what the text's rest says -/
theorem sg_E {T : Nat → Nat} {n k k2 c c2 w w2 B : Nat} {g f2 g2 : Int32} {r1 : Nat → Nat} {M Mu : Nat → Nat → Int32} {rt rt2 RT F3 F4 : Nat → Int32} (hlt : k < n) (hbl : rn isBl T n k = k) (hJ : ∀ a b, a < 6 → b < 6 → r1 a = r1 b → a = b) (hw6 : w2 ≤ 6) (hXw : fdW (txP T n wl6 bd6 fl6 (61 - c) c w k).2 w = B) (hXr : mtF (txP T n wl6 bd6 fl6 (61 - c) c w k).2 w rt = RT) (hX3 : ∀ i, i < B → fdT (txP T n wl6 bd6 fl6 (61 - c) c w k).2 w (fun i9 => M (r1 i9) 0) i = F3 i ∧ fdM (txP T n wl6 bd6 fl6 (61 - c) c w k).2 w (fun i9 => M (r1 i9) 1) i = F4 i) (hc : c ≤ 60) (hk2 : k2 ≤ n)
    (h : (∃ c9 p9, (ptS T n wl6 bd6 (fl6 c w) k).1 = some (c9, p9) ∧ f2 = nI c9 ∧ g2 = nI p9) ∨ (∃ q9 vs, (ptS T n wl6 bd6 (fl6 c w) k).1 = none ∧ (ptS T n wl6 bd6 (fl6 c w) k).2.2 = some (q9, vs) ∧ k2 = (ptS T n wl6 bd6 (fl6 c w) k).2.1 ∧ f2 = 0 ∧ g2 = g ∧ c2 = c + 1 ∧ rt2 = mtR q9 vs w rt ∧ Mu = mtM r1 q9 vs w M ∧ w2 = stW q9 w)) (hf2 : f2 = 0) :
    mtF (txP T n wl6 bd6 fl6 (61 - c2) c2 w2 (rn isBl T n k2)).2 w2 rt2 = RT ∧ ∀ i, i < B → fdT (txP T n wl6 bd6 fl6 (61 - c2) c2 w2 (rn isBl T n k2)).2 w2 (fun i9 => Mu (r1 i9) 0) i = F3 i ∧ fdM (txP T n wl6 bd6 fl6 (61 - c2) c2 w2 (rn isBl T n k2)).2 w2 (fun i9 => Mu (r1 i9) 1) i = F4 i := by
  have hl2 : rn isBl T n k < n := by rw [hbl]; exact hlt
  rw [tx_s c 61 (by omega)] at hXw hXr hX3
  rcases h with ⟨c9, p9, hp1, hf, hp⟩ | ⟨q9, vs, hp1, hp2, hk9, hf, hp, hc9, hr9, hM9, hw9⟩
  · have hz := pt_f0 hp1
    have hne : ¬ f2 = 0 := by
      rw [hf]
      rcases (show c9 = 1 ∨ c9 = 2 ∨ c9 = 3 by omega) with rfl | rfl | rfl <;> decide
    exact absurd hf2 hne
  · have e9 := tx_o (wl := wl6) (bd := bd6) (full := fl6) (b := c) (w := w) (f := 61 - (c + 1)) hl2 (by rw [hbl]; exact hp1) (by rw [hbl]; exact hp2)
    rw [hbl, ← hk9] at e9
    rw [e9] at hXw hXr hX3
    rw [tx_b hk2, hc9, hw9, hr9, hM9]
    rw [hw9] at hw6
    have hm := mtM_0 (M := M) (vs := vs) hJ hw6
    generalize (txP T n wl6 bd6 fl6 (61 - (c + 1)) (c + 1) (stW q9 w) k2).2 = L at hXw hXr hX3 ⊢
    refine ⟨hXr, fun i hi => ?_⟩
    have hB : i < fdW L (stW q9 w) := by rw [← hXw] at hi; exact hi
    have h3 := hX3 i hi
    exact ⟨(fdT_cg L (stW q9 w) _ (stT q9 vs w (fun i9 => M (r1 i9) 0)) (fun k9 hk9 => (hm k9 hk9).1) i hB).trans h3.1, (fdM_cg L (stW q9 w) _ (stM q9 vs w (fun i9 => M (r1 i9) 1)) (fun k9 hk9 => (hm k9 hk9).2) i hB).trans h3.2⟩
/-- how things stand at the beginning, in the reference -/
theorem bg_sb {w : Nat} {rt sf st T F3 : Nat → Int32} (hw : w ≤ 6) (hT : ∀ i, 0 < i → i < 25 → rt i = T i) (h3 : ∀ k, k < w → st k = F3 k) : ∀ i, i < 24 → lwF (sbF rt sf) st w i = bgA w T F3 i := by
  intro i h2
  unfold lwF bgA
  by_cases c : 12 ≤ i ∧ i < 12 + w
  · rw [if_pos c, if_neg (by omega), if_neg (by omega), if_neg (by omega), if_neg (by omega), if_neg (by omega), if_neg (by omega), if_neg (by omega), if_pos c]
    exact h3 _ (by omega)
  · rw [if_neg c]
    rcases Nat.lt_or_ge i 12 with d | d
    · rcases (show i = 0 ∨ i = 1 ∨ i = 2 ∨ i = 3 ∨ i = 4 ∨ i = 5 ∨ i = 6 ∨ i = 7 ∨ i = 8 ∨ i = 9 ∨ i = 10 ∨ i = 11 by omega) with rfl | rfl | rfl | rfl | rfl | rfl | rfl | rfl | rfl | rfl | rfl | rfl
      · exact hT 1 (by decide) (by decide)
      · exact hT 4 (by decide) (by decide)
      · exact hT 7 (by decide) (by decide)
      · exact hT 2 (by decide) (by decide)
      · exact hT 5 (by decide) (by decide)
      · exact hT 9 (by decide) (by decide)
      · rfl
      · rfl
      · rfl
      · rfl
      · rfl
      · rfl
    · rw [if_neg (by omega), if_neg (by omega), if_neg (by omega), if_neg (by omega), if_neg (by omega), if_neg (by omega), if_neg (by omega), if_neg c]
      unfold sbF
      rw [upd_n (by omega), upd_n (by omega), upd_n (by omega), upd_n (by omega), upd_n (by omega), upd_n (by omega), upd_n (by omega), upd_n (by omega)]
      unfold flF
      rw [if_pos (by omega)]
/-- all that a new siege's rows say -/
theorem sg_F {L : List (Nat × List Nat)} {w : Nat} {rj tf f0 sf F : Nat → Int32} {r1 r2 : Nat → Nat} {Mj Mu : Nat → Nat → Int32} (hw : w ≤ 6) (hB : w = fdW L 0) (hr : rj = mtF L 0 (tnF f0)) (h3 : ∀ i, i < fdW L 0 → Mj (r1 i) 0 = fdT L 0 (fun _ => 0) i ∧ Mj (r1 i) 1 = fdM L 0 (fun _ => 0) i) (hF : F = lwF (sbF rj sf) (fun k9 => Mj (r1 k9) 0) w) (hk : ∀ i, i < w → ∀ b, b < 2 → Mu (r2 i) b = Mj (r1 i) b) :
    (∀ i, 0 < i → i < 25 → flF rj tf 25 i = mtF L 0 tnA i) ∧ (∀ i, i < w → Mu (r2 i) 0 = fdT L 0 (fun _ => 0) i ∧ Mu (r2 i) 1 = fdM L 0 (fun _ => 0) i) ∧ ∀ i, i < 24 → F i = bgA w (mtF L 0 tnA) (fdT L 0 (fun _ => 0)) i := by
  have hT : ∀ i, 0 < i → i < 25 → rj i = mtF L 0 tnA i := fun i h1 h2 => by rw [hr]; exact mtF_cg L 0 _ _ (tn_A f0 i h1 h2)
  refine ⟨fun i h1 h2 => ?_, fun i hi => ?_, ?_⟩
  · unfold flF
    rw [if_pos h2]
    exact hT i h1 h2
  · rw [hk i hi 0 (by decide), hk i hi 1 (by decide)]
    exact h3 i (by omega)
  · rw [hF]
    exact bg_sb hw hT (fun k hk9 => (h3 k (by omega)).1)
/-! a contract -/
theorem ct_i9 {f : Nat → Int32} {v : Int32} (h : v = if f 1 = -1 then f 0 else f 1) : ∀ b, b < 6 → upd f 1 v b = if b = 1 then (if f 1 = -1 then f 0 else f 1) else f b := by
  intro b _
  by_cases e : b = 1
  · rw [e, upd_s, if_pos rfl]; exact h
  · rw [upd_n e, if_neg e]
theorem rl_6 : ∀ (L : List (Nat × List Nat)) (f : Nat → Int32), fdRl L f 6 = f 6
  | [], _ => rfl
  | a :: L, f => (rl_6 L (rlD a.1 a.2 f)).trans (by
    unfold rlD
    split
    · rfl
    · rename_i e
      exact upd_n (fun h9 => e h9.symm))
theorem ct_rows {L : List (Nat × List Nat)} {rkj rbj rk3 rk rb C0 B0 : Nat → Int32} (h1 : rkj = fdRl L (flF iniF rk 7)) (h2 : rbj = fdB L (flF (fun _ => -1) rb 36)) (h9 : ∀ b, b < 6 → rk3 b = if b = 1 then (if rkj 1 = -1 then rkj 0 else rkj 1) else rkj b) (h6 : rk3 6 = nI (cnF rbj 36)) (hC : ∀ b, b < 7 → C0 b = rk3 b) (hB : ∀ b, b < 36 → B0 b = rbj b) : conR C0 B0 (ctC L) (ctB L) := by
  have e1 := rl_cg L (flF iniF rk 7) (flF iniF (fun _ => 0) 7) (fun i hi => by unfold flF; rw [if_pos (by omega), if_pos (by omega)])
  have e2 := rb_cg L (flF (fun _ => -1) rb 36) (flF (fun _ => -1) (fun _ => 0) 36) (fun i hi => by unfold flF; rw [if_pos hi, if_pos hi])
  refine ⟨fun i hi => ?_, fun m hm => ?_⟩
  · rw [hC i hi]
    by_cases c6 : i = 6
    · rw [c6, h6, h2]
      show nI (cnF (fdB L (flF (fun _ => -1) rb 36)) 36) = nI (cnF (ctB L) 36)
      rw [cn_cg 36 e2]
      rfl
    · rw [h9 i (by omega), h1]
      unfold ctC
      by_cases c1 : i = 1
      · rw [if_pos c1, if_pos c1, e1 1 (by decide), e1 0 (by decide)]
      · rw [if_neg c1, if_neg c1, if_neg c6]
        exact e1 i (by omega)
  · rw [hB m hm, h2]
    exact e2 m hm
set_option maxHeartbeats 4000000 in
set_option maxRecDepth 100000 in
theorem r_X11_stands0 (l : Launch) (g : he_G) (m0 : Nat) (fd : Nat) (rfm : Nat) (rt_ : Nat) (to_ : Nat) (rw_ : Nat) (wa : Nat) (rk : Nat) (rb : Nat) (cn : Nat) (br : Nat) (sm : Nat) (as_ : Nat) (go : Nat) (sh_ : Nat) (ki : Nat) (tg : Nat) (of_ : Nat) (kp : Nat) (rs : Nat) (ta : Int32) (sz_ : Int32) (pl : Int32) (at_ : Int32) (fa : Int32) (fw : Int32) (cs : Int32) (ct : Int32) (ir : Int32) (oa : Int32) (ob : Int32) (th : Int32) (ig : Int32) (sp_ : Int32) (sf : Int32) (tw : Int32) (rt : Nat → Int32) (tf : Nat → Int32) (sf0 : Nat → Int32) (w : Nat) (L : List Nat) (ln : Nat → Nat) (M : Nat → Nat → Int32) (r1 : Nat → Nat) (r2 : Nat → Nat) (r6 : Nat → Nat) (r7 : Nat → Nat) (r9 : Nat → Nat) (F_r1 : ∀ i, i < 6 → r1 i ∈ L ∧ ln (r1 i) = 2 ∧ True) (F_r2 : ∀ i, i < 6 → r2 i ∈ L ∧ ln (r2 i) = 2 ∧ True) (F_r6 : ∀ i, i < 120 → r6 i ∈ L ∧ ln (r6 i) = 6 ∧ True) (F_r7 : ∀ i, i < 4 → r7 i ∈ L ∧ ln (r7 i) = 2 ∧ True) (F_r9 : ∀ i, i < 2 → r9 i ∈ L ∧ ln (r9 i) = 12 ∧ True) (J_r2 : ∀ a b, a < 6 → b < 6 → r2 a = r2 b → a = b) (J_r7 : ∀ a b, a < 4 → b < 4 → r7 a = r7 b → a = b) (J_r9 : ∀ a b, a < 2 → b < 2 → r9 a = r9 b → a = b) (D_r1_r2 : ∀ i j, i < 6 → j < 6 → r1 i ≠ r2 j) (D_r2_r6 : ∀ i j, i < 6 → j < 120 → r2 i ≠ r6 j) (D_r2_r7 : ∀ i j, i < 6 → j < 4 → r2 i ≠ r7 j) (D_r2_r9 : ∀ i j, i < 6 → j < 2 → r2 i ≠ r9 j) (D_r7_r9 : ∀ i j, i < 4 → j < 2 → r7 i ≠ r9 j) (hrt : rt 0 = nI w) (hw6 : w ≤ 6) : he_V l yX11_stands0 wsX11_stands0 0 0 0 0 g [.ref m0] ([(oX11 m0 tw ta sz_ pl at_ fa fw cs fd rfm rt_ to_ rw_ wa ct rk rb cn br sm as_ go sh_ ir oa ob th ig sp_ ki tg of_ kp sf rs), (aI g rt_ 25 rt), (aI g to_ 25 tf), (aI g sm 25 sf0), (aM g rw_ 6 (he_ro 6 r1)), (aM g wa 6 (he_ro 6 r2)), (aM g sh_ 120 (he_ro 120 r6)), (aM g ki 4 (he_ro 4 r7)), (aM g of_ 2 (he_ro 2 r9))] ++ he_pl g L ln M) (fun (u : (Nat → Int32) × (Nat → Nat → Int32)) => u.1 10 = -1 ∧ u.1 24 = 0 ∧ rNew r7 r9 u.2 ∧ (u.1 = lwF (sbF rt sf0) (fun k9 => M (r1 k9) 0) w) ∧ (∀ i, i < w → ∀ b, b < 2 → u.2 (r2 i) b = M (r1 i) b)) (fun (u : (Nat → Int32) × (Nat → Nat → Int32)) => [(oX11 m0 tw ta sz_ pl at_ fa fw cs fd rfm rt_ to_ rw_ wa 0 rk rb cn br sm as_ go sh_ ir 1 1 0 0 sp_ ki tg of_ kp sf rs), (aI g rt_ 25 rt), (aI g to_ 25 (flF rt tf 25)), (aI g sm 25 u.1), (aM g rw_ 6 (he_ro 6 r1)), (aM g wa 6 (he_ro 6 r2)), (aM g sh_ 120 (he_ro 120 r6)), (aM g ki 4 (he_ro 4 r7)), (aM g of_ 2 (he_ro 2 r9))] ++ he_pl g L ln u.2) := by
  refine he_begin (l := l) (g := g) (y := yX11_stands0) (wl := wsX11_stands0) (fr := 0) (lo := 0) (mc := 0) (ms := 0) (av := [.ref m0]) (ws := ([(oX11 m0 tw ta sz_ pl at_ fa fw cs fd rfm rt_ to_ rw_ wa ct rk rb cn br sm as_ go sh_ ir oa ob th ig sp_ ki tg of_ kp sf rs), (aI g rt_ 25 rt), (aI g to_ 25 tf), (aI g sm 25 sf0), (aM g rw_ 6 (he_ro 6 r1)), (aM g wa 6 (he_ro 6 r2)), (aM g sh_ 120 (he_ro 120 r6)), (aM g ki 4 (he_ro 4 r7)), (aM g of_ 2 (he_ro 2 r9))] ++ he_pl g L ln M)) (cc := cX11_stands0) (maxL := 3) (ret := none) (fun A => va_Qv (fun (u : (Nat → Int32) × (Nat → Nat → Int32)) => u.1 10 = -1 ∧ u.1 24 = 0 ∧ rNew r7 r9 u.2 ∧ (u.1 = lwF (sbF rt sf0) (fun k9 => M (r1 k9) 0) w) ∧ (∀ i, i < w → ∀ b, b < 2 → u.2 (r2 i) b = M (r1 i) b)) (fun u t => he_post g A ((fun (u : (Nat → Int32) × (Nat → Nat → Int32)) => [(oX11 m0 tw ta sz_ pl at_ fa fw cs fd rfm rt_ to_ rw_ wa 0 rk rb cn br sm as_ go sh_ ir 1 1 0 0 sp_ ki tg of_ kp sf rs), (aI g rt_ 25 rt), (aI g to_ 25 (flF rt tf 25)), (aI g sm 25 u.1), (aM g rw_ 6 (he_ro 6 r1)), (aM g wa 6 (he_ro 6 r2)), (aM g sh_ 120 (he_ro 120 r6)), (aM g ki 4 (he_ro 4 r7)), (aM g of_ 2 (he_ro 2 r9))] ++ he_pl g L ln u.2) u) t) A) (by decide) rfl (Nat.le_of_ble_eq_true rfl) ?_
  intro p e s m args below meth c A ls H locs Q hQ hB
  obtain ⟨hx, hb, hr, hml, hown, hts, hlk, hin, hP, hK, hD, hS, hA, hE, hl⟩ := hB
  have hl : lv_has ls 3 [(0, .ref m0)] := hl
  have f46 := hts (.fieldLink RX11 46 "HiredEnemyModel" "s" "[I") (iwoX11_stands0 (k := 2) rfl)
  have inX11 : ∀ w ∈ wsX110, w ∈ wsX11_stands0 := innX11_stands0_X11
  have f23 := hts (.fieldLink RX11 23 "HiredEnemyModel" "told" "[I") (iwoX11_stands0 (k := 0) rfl)
  have f162 := hts (.fieldLink RX11 162 "HiredEnemyModel" "contracts" "I") (iwoX11_stands0 (k := 8) rfl)
  have f58 := hts (.fieldLink RX11 58 "HiredEnemyModel" "oddsA" "I") (iwoX11_stands0 (k := 9) rfl)
  have f61 := hts (.fieldLink RX11 61 "HiredEnemyModel" "oddsB" "I") (iwoX11_stands0 (k := 10) rfl)
  have f165 := hts (.fieldLink RX11 165 "HiredEnemyModel" "things" "I") (iwoX11_stands0 (k := 11) rfl)
  have f168 := hts (.fieldLink RX11 168 "HiredEnemyModel" "images" "I") (iwoX11_stands0 (k := 12) rfl)
  have f70 := hts (.fieldLink RX11 70 "HiredEnemyModel" "offered" "[[I") (iwoX11_stands0 (k := 7) rfl)
  have f64 := hts (.fieldLink RX11 64 "HiredEnemyModel" "kind" "[[I") (iwoX11_stands0 (k := 6) rfl)
  have f55 := hts (.fieldLink RX11 55 "HiredEnemyModel" "shot" "[[I") (iwoX11_stands0 (k := 5) rfl)
  have f31 := hts (.fieldLink RX11 31 "HiredEnemyModel" "wall" "[[I") (iwoX11_stands0 (k := 3) rfl)
  have f28 := hts (.fieldLink RX11 28 "HiredEnemyModel" "readWall" "[[I") (iwoX11_stands0 (k := 4) rfl)
  have f20 := hts (.fieldLink RX11 20 "HiredEnemyModel" "readTold" "[I") (iwoX11_stands0 (k := 1) rfl)
  refine lv_iconst (v := 0) hx hb dX11_stands0_0 (by decide) ?_
  refine lv_istore_n (lv' := [(1, .int 0), (0, .ref m0)]) hx hb dX11_stands0_1 rfl hl (by decide) rfl (fun ls hl => ?_)
  have loop2 : ∀ (n9 : Nat) (j : Nat), 25 - j < n9 → (j ≤ 25) → ∀ (H : Heap) (locs : List Loc) (ls : Array Slot), va_P g.1 vwCl ([(oX11 m0 tw ta sz_ pl at_ fa fw cs fd rfm rt_ to_ rw_ wa ct rk rb cn br sm as_ go sh_ ir oa ob th ig sp_ ki tg of_ kp sf rs), (aI g rt_ 25 rt), (aI g to_ 25 (flF rt tf j)), (aI g sm 25 sf0), (aM g rw_ 6 (he_ro 6 r1)), (aM g wa 6 (he_ro 6 r2)), (aM g sh_ 120 (he_ro 120 r6)), (aM g ki 4 (he_ro 4 r7)), (aM g of_ 2 (he_ro 2 r9))] ++ he_pl g L ln M) H → va_D A ([(oX11 m0 tw ta sz_ pl at_ fa fw cs fd rfm rt_ to_ rw_ wa ct rk rb cn br sm as_ go sh_ ir oa ob th ig sp_ ki tg of_ kp sf rs), (aI g rt_ 25 rt), (aI g to_ 25 (flF rt tf j)), (aI g sm 25 sf0), (aM g rw_ 6 (he_ro 6 r1)), (aM g wa 6 (he_ro 6 r2)), (aM g sh_ 120 (he_ro 120 r6)), (aM g ki 4 (he_ro 4 r7)), (aM g of_ 2 (he_ro 2 r9))] ++ he_pl g L ln M) → va_S A s.heap H locs → lv_has ls 3 [(0, .ref m0), (1, .int (nI j))] → W p l e (he_room 0 0 0 0) s m args below meth c H locs 0 0 Q (F0 m 2 ls []) := by
    intro n9
    induction n9 with
    | zero => intro j hm9; exact absurd hm9 (Nat.not_lt_zero _)
    | succ n9 ih2 =>
      intro j hm9 hj H locs ls hP hD hS hl
      refine lv_iload_n hx hb dX11_stands0_2 rfl (lv_at hl 1 rfl) ?_
      refine lv_bipush (v := 25) hx hb dX11_stands0_3 (by decide) ?_
      refine lv_icmp_ge (tgt := 26) hx hb dX11_stands0_5 (by decide) (fun c_1 => ?_) (fun c_1 => ?_)
      · have k_2 : 25 ≤ j := (he_cle (a := 25) (b := j) (by decide) rfl (by omega) (by omega)).mp c_1
        obtain rfl : j = 25 := by omega
        refine lv_iconst (v := 0) hx hb dX11_stands0_26 (by decide) ?_
        refine lv_istore_n (lv' := [(1, .int 0), (0, .ref m0)]) hx hb dX11_stands0_27 rfl hl (by decide) rfl (fun ls hl => ?_)
        have loop28 : ∀ (n9 : Nat) (j2 : Nat), 25 - j2 < n9 → (j2 ≤ 25) → ∀ (H : Heap) (locs : List Loc) (ls : Array Slot), va_P g.1 vwCl ([(oX11 m0 tw ta sz_ pl at_ fa fw cs fd rfm rt_ to_ rw_ wa ct rk rb cn br sm as_ go sh_ ir oa ob th ig sp_ ki tg of_ kp sf rs), (aI g rt_ 25 rt), (aI g to_ 25 (flF rt tf 25)), (aI g sm 25 (flF (fun _ => 0) sf0 j2)), (aM g rw_ 6 (he_ro 6 r1)), (aM g wa 6 (he_ro 6 r2)), (aM g sh_ 120 (he_ro 120 r6)), (aM g ki 4 (he_ro 4 r7)), (aM g of_ 2 (he_ro 2 r9))] ++ he_pl g L ln M) H → va_D A ([(oX11 m0 tw ta sz_ pl at_ fa fw cs fd rfm rt_ to_ rw_ wa ct rk rb cn br sm as_ go sh_ ir oa ob th ig sp_ ki tg of_ kp sf rs), (aI g rt_ 25 rt), (aI g to_ 25 (flF rt tf 25)), (aI g sm 25 (flF (fun _ => 0) sf0 j2)), (aM g rw_ 6 (he_ro 6 r1)), (aM g wa 6 (he_ro 6 r2)), (aM g sh_ 120 (he_ro 120 r6)), (aM g ki 4 (he_ro 4 r7)), (aM g of_ 2 (he_ro 2 r9))] ++ he_pl g L ln M) → va_S A s.heap H locs → lv_has ls 3 [(0, .ref m0), (1, .int (nI j2))] → W p l e (he_room 0 0 0 0) s m args below meth c H locs 0 0 Q (F0 m 28 ls []) := by
          intro n9
          induction n9 with
          | zero => intro j2 hm9; exact absurd hm9 (Nat.not_lt_zero _)
          | succ n9 ih28 =>
            intro j2 hm9 hj2 H locs ls hP hD hS hl
            refine lv_iload_n hx hb dX11_stands0_28 rfl (lv_at hl 1 rfl) ?_
            refine lv_bipush (v := 25) hx hb dX11_stands0_29 (by decide) ?_
            refine lv_icmp_ge (tgt := 47) hx hb dX11_stands0_31 (by decide) (fun c_3 => ?_) (fun c_3 => ?_)
            · have k_4 : 25 ≤ j2 := (he_cle (a := 25) (b := j2) (by decide) rfl (by omega) (by omega)).mp c_3
              obtain rfl : j2 = 25 := by omega
              refine lv_aload_n hx hb dX11_stands0_47 rfl (lv_at hl 0 rfl) ?_
              refine va_get (v := .ref sm) (T := TX11) (N := 35) hx hb hts inX11 hown hK hP 0 rfl rfl 19 (by decide) f46 (fun _ h9 => h9) rfl dX11_stands0_48 ?_
              refine lv_iconst (v := 0) hx hb dX11_stands0_51 (by decide) ?_
              refine lv_aload_n hx hb dX11_stands0_52 rfl (lv_at hl 0 rfl) ?_
              refine va_get (v := .ref to_) (T := TX11) (N := 35) hx hb hts inX11 hown hK hP 0 rfl rfl 11 (by decide) f23 (fun _ h9 => h9) rfl dX11_stands0_53 ?_
              refine lv_iconst (v := 1) hx hb dX11_stands0_56 (by decide) ?_
              refine he_iald hx hb hK hP 2 rfl (1) (by decide) (by decide) (by first | decide | assumption) (rt 1) rfl dX11_stands0_57 ?_
              refine he_iast hx hb hK hP hD hS 3 rfl (0) (by decide) (by decide) (by first | decide | assumption) dX11_stands0_58 (fun H locs hP hD hS => ?_)
              have hP : va_P g.1 vwCl ([(oX11 m0 tw ta sz_ pl at_ fa fw cs fd rfm rt_ to_ rw_ wa ct rk rb cn br sm as_ go sh_ ir oa ob th ig sp_ ki tg of_ kp sf rs), (aI g rt_ 25 rt), (aI g to_ 25 (flF rt tf 25)), (aI g sm 25 (upd (flF (fun _ => 0) sf0 25) 0 (rt 1))), (aM g rw_ 6 (he_ro 6 r1)), (aM g wa 6 (he_ro 6 r2)), (aM g sh_ 120 (he_ro 120 r6)), (aM g ki 4 (he_ro 4 r7)), (aM g of_ 2 (he_ro 2 r9))] ++ he_pl g L ln M) H := hP
              have hD : va_D A ([(oX11 m0 tw ta sz_ pl at_ fa fw cs fd rfm rt_ to_ rw_ wa ct rk rb cn br sm as_ go sh_ ir oa ob th ig sp_ ki tg of_ kp sf rs), (aI g rt_ 25 rt), (aI g to_ 25 (flF rt tf 25)), (aI g sm 25 (upd (flF (fun _ => 0) sf0 25) 0 (rt 1))), (aM g rw_ 6 (he_ro 6 r1)), (aM g wa 6 (he_ro 6 r2)), (aM g sh_ 120 (he_ro 120 r6)), (aM g ki 4 (he_ro 4 r7)), (aM g of_ 2 (he_ro 2 r9))] ++ he_pl g L ln M) := hD
              refine lv_aload_n hx hb dX11_stands0_59 rfl (lv_at hl 0 rfl) ?_
              refine va_get (v := .ref sm) (T := TX11) (N := 35) hx hb hts inX11 hown hK hP 0 rfl rfl 19 (by decide) f46 (fun _ h9 => h9) rfl dX11_stands0_60 ?_
              refine lv_iconst (v := 1) hx hb dX11_stands0_63 (by decide) ?_
              refine lv_aload_n hx hb dX11_stands0_64 rfl (lv_at hl 0 rfl) ?_
              refine va_get (v := .ref to_) (T := TX11) (N := 35) hx hb hts inX11 hown hK hP 0 rfl rfl 11 (by decide) f23 (fun _ h9 => h9) rfl dX11_stands0_65 ?_
              refine lv_iconst (v := 4) hx hb dX11_stands0_68 (by decide) ?_
              refine he_iald hx hb hK hP 2 rfl (4) (by decide) (by decide) (by first | decide | assumption) (rt 4) rfl dX11_stands0_69 ?_
              refine he_iast hx hb hK hP hD hS 3 rfl (1) (by decide) (by decide) (by first | decide | assumption) dX11_stands0_70 (fun H locs hP hD hS => ?_)
              have hP : va_P g.1 vwCl ([(oX11 m0 tw ta sz_ pl at_ fa fw cs fd rfm rt_ to_ rw_ wa ct rk rb cn br sm as_ go sh_ ir oa ob th ig sp_ ki tg of_ kp sf rs), (aI g rt_ 25 rt), (aI g to_ 25 (flF rt tf 25)), (aI g sm 25 (upd (upd (flF (fun _ => 0) sf0 25) 0 (rt 1)) 1 (rt 4))), (aM g rw_ 6 (he_ro 6 r1)), (aM g wa 6 (he_ro 6 r2)), (aM g sh_ 120 (he_ro 120 r6)), (aM g ki 4 (he_ro 4 r7)), (aM g of_ 2 (he_ro 2 r9))] ++ he_pl g L ln M) H := hP
              have hD : va_D A ([(oX11 m0 tw ta sz_ pl at_ fa fw cs fd rfm rt_ to_ rw_ wa ct rk rb cn br sm as_ go sh_ ir oa ob th ig sp_ ki tg of_ kp sf rs), (aI g rt_ 25 rt), (aI g to_ 25 (flF rt tf 25)), (aI g sm 25 (upd (upd (flF (fun _ => 0) sf0 25) 0 (rt 1)) 1 (rt 4))), (aM g rw_ 6 (he_ro 6 r1)), (aM g wa 6 (he_ro 6 r2)), (aM g sh_ 120 (he_ro 120 r6)), (aM g ki 4 (he_ro 4 r7)), (aM g of_ 2 (he_ro 2 r9))] ++ he_pl g L ln M) := hD
              refine lv_aload_n hx hb dX11_stands0_71 rfl (lv_at hl 0 rfl) ?_
              refine va_get (v := .ref sm) (T := TX11) (N := 35) hx hb hts inX11 hown hK hP 0 rfl rfl 19 (by decide) f46 (fun _ h9 => h9) rfl dX11_stands0_72 ?_
              refine lv_iconst (v := 2) hx hb dX11_stands0_75 (by decide) ?_
              refine lv_aload_n hx hb dX11_stands0_76 rfl (lv_at hl 0 rfl) ?_
              refine va_get (v := .ref to_) (T := TX11) (N := 35) hx hb hts inX11 hown hK hP 0 rfl rfl 11 (by decide) f23 (fun _ h9 => h9) rfl dX11_stands0_77 ?_
              refine lv_bipush (v := 7) hx hb dX11_stands0_80 (by decide) ?_
              refine he_iald hx hb hK hP 2 rfl (7) (by decide) (by decide) (by first | decide | assumption) (rt 7) rfl dX11_stands0_82 ?_
              refine he_iast hx hb hK hP hD hS 3 rfl (2) (by decide) (by decide) (by first | decide | assumption) dX11_stands0_83 (fun H locs hP hD hS => ?_)
              have hP : va_P g.1 vwCl ([(oX11 m0 tw ta sz_ pl at_ fa fw cs fd rfm rt_ to_ rw_ wa ct rk rb cn br sm as_ go sh_ ir oa ob th ig sp_ ki tg of_ kp sf rs), (aI g rt_ 25 rt), (aI g to_ 25 (flF rt tf 25)), (aI g sm 25 (upd (upd (upd (flF (fun _ => 0) sf0 25) 0 (rt 1)) 1 (rt 4)) 2 (rt 7))), (aM g rw_ 6 (he_ro 6 r1)), (aM g wa 6 (he_ro 6 r2)), (aM g sh_ 120 (he_ro 120 r6)), (aM g ki 4 (he_ro 4 r7)), (aM g of_ 2 (he_ro 2 r9))] ++ he_pl g L ln M) H := hP
              have hD : va_D A ([(oX11 m0 tw ta sz_ pl at_ fa fw cs fd rfm rt_ to_ rw_ wa ct rk rb cn br sm as_ go sh_ ir oa ob th ig sp_ ki tg of_ kp sf rs), (aI g rt_ 25 rt), (aI g to_ 25 (flF rt tf 25)), (aI g sm 25 (upd (upd (upd (flF (fun _ => 0) sf0 25) 0 (rt 1)) 1 (rt 4)) 2 (rt 7))), (aM g rw_ 6 (he_ro 6 r1)), (aM g wa 6 (he_ro 6 r2)), (aM g sh_ 120 (he_ro 120 r6)), (aM g ki 4 (he_ro 4 r7)), (aM g of_ 2 (he_ro 2 r9))] ++ he_pl g L ln M) := hD
              refine lv_aload_n hx hb dX11_stands0_84 rfl (lv_at hl 0 rfl) ?_
              refine va_get (v := .ref sm) (T := TX11) (N := 35) hx hb hts inX11 hown hK hP 0 rfl rfl 19 (by decide) f46 (fun _ h9 => h9) rfl dX11_stands0_85 ?_
              refine lv_iconst (v := 3) hx hb dX11_stands0_88 (by decide) ?_
              refine lv_aload_n hx hb dX11_stands0_89 rfl (lv_at hl 0 rfl) ?_
              refine va_get (v := .ref to_) (T := TX11) (N := 35) hx hb hts inX11 hown hK hP 0 rfl rfl 11 (by decide) f23 (fun _ h9 => h9) rfl dX11_stands0_90 ?_
              refine lv_iconst (v := 2) hx hb dX11_stands0_93 (by decide) ?_
              refine he_iald hx hb hK hP 2 rfl (2) (by decide) (by decide) (by first | decide | assumption) (rt 2) rfl dX11_stands0_94 ?_
              refine he_iast hx hb hK hP hD hS 3 rfl (3) (by decide) (by decide) (by first | decide | assumption) dX11_stands0_95 (fun H locs hP hD hS => ?_)
              have hP : va_P g.1 vwCl ([(oX11 m0 tw ta sz_ pl at_ fa fw cs fd rfm rt_ to_ rw_ wa ct rk rb cn br sm as_ go sh_ ir oa ob th ig sp_ ki tg of_ kp sf rs), (aI g rt_ 25 rt), (aI g to_ 25 (flF rt tf 25)), (aI g sm 25 (upd (upd (upd (upd (flF (fun _ => 0) sf0 25) 0 (rt 1)) 1 (rt 4)) 2 (rt 7)) 3 (rt 2))), (aM g rw_ 6 (he_ro 6 r1)), (aM g wa 6 (he_ro 6 r2)), (aM g sh_ 120 (he_ro 120 r6)), (aM g ki 4 (he_ro 4 r7)), (aM g of_ 2 (he_ro 2 r9))] ++ he_pl g L ln M) H := hP
              have hD : va_D A ([(oX11 m0 tw ta sz_ pl at_ fa fw cs fd rfm rt_ to_ rw_ wa ct rk rb cn br sm as_ go sh_ ir oa ob th ig sp_ ki tg of_ kp sf rs), (aI g rt_ 25 rt), (aI g to_ 25 (flF rt tf 25)), (aI g sm 25 (upd (upd (upd (upd (flF (fun _ => 0) sf0 25) 0 (rt 1)) 1 (rt 4)) 2 (rt 7)) 3 (rt 2))), (aM g rw_ 6 (he_ro 6 r1)), (aM g wa 6 (he_ro 6 r2)), (aM g sh_ 120 (he_ro 120 r6)), (aM g ki 4 (he_ro 4 r7)), (aM g of_ 2 (he_ro 2 r9))] ++ he_pl g L ln M) := hD
              refine lv_aload_n hx hb dX11_stands0_96 rfl (lv_at hl 0 rfl) ?_
              refine va_get (v := .ref sm) (T := TX11) (N := 35) hx hb hts inX11 hown hK hP 0 rfl rfl 19 (by decide) f46 (fun _ h9 => h9) rfl dX11_stands0_97 ?_
              refine lv_iconst (v := 4) hx hb dX11_stands0_100 (by decide) ?_
              refine lv_aload_n hx hb dX11_stands0_101 rfl (lv_at hl 0 rfl) ?_
              refine va_get (v := .ref to_) (T := TX11) (N := 35) hx hb hts inX11 hown hK hP 0 rfl rfl 11 (by decide) f23 (fun _ h9 => h9) rfl dX11_stands0_102 ?_
              refine lv_iconst (v := 5) hx hb dX11_stands0_105 (by decide) ?_
              refine he_iald hx hb hK hP 2 rfl (5) (by decide) (by decide) (by first | decide | assumption) (rt 5) rfl dX11_stands0_106 ?_
              refine he_iast hx hb hK hP hD hS 3 rfl (4) (by decide) (by decide) (by first | decide | assumption) dX11_stands0_107 (fun H locs hP hD hS => ?_)
              have hP : va_P g.1 vwCl ([(oX11 m0 tw ta sz_ pl at_ fa fw cs fd rfm rt_ to_ rw_ wa ct rk rb cn br sm as_ go sh_ ir oa ob th ig sp_ ki tg of_ kp sf rs), (aI g rt_ 25 rt), (aI g to_ 25 (flF rt tf 25)), (aI g sm 25 (upd (upd (upd (upd (upd (flF (fun _ => 0) sf0 25) 0 (rt 1)) 1 (rt 4)) 2 (rt 7)) 3 (rt 2)) 4 (rt 5))), (aM g rw_ 6 (he_ro 6 r1)), (aM g wa 6 (he_ro 6 r2)), (aM g sh_ 120 (he_ro 120 r6)), (aM g ki 4 (he_ro 4 r7)), (aM g of_ 2 (he_ro 2 r9))] ++ he_pl g L ln M) H := hP
              have hD : va_D A ([(oX11 m0 tw ta sz_ pl at_ fa fw cs fd rfm rt_ to_ rw_ wa ct rk rb cn br sm as_ go sh_ ir oa ob th ig sp_ ki tg of_ kp sf rs), (aI g rt_ 25 rt), (aI g to_ 25 (flF rt tf 25)), (aI g sm 25 (upd (upd (upd (upd (upd (flF (fun _ => 0) sf0 25) 0 (rt 1)) 1 (rt 4)) 2 (rt 7)) 3 (rt 2)) 4 (rt 5))), (aM g rw_ 6 (he_ro 6 r1)), (aM g wa 6 (he_ro 6 r2)), (aM g sh_ 120 (he_ro 120 r6)), (aM g ki 4 (he_ro 4 r7)), (aM g of_ 2 (he_ro 2 r9))] ++ he_pl g L ln M) := hD
              refine lv_aload_n hx hb dX11_stands0_108 rfl (lv_at hl 0 rfl) ?_
              refine va_get (v := .ref sm) (T := TX11) (N := 35) hx hb hts inX11 hown hK hP 0 rfl rfl 19 (by decide) f46 (fun _ h9 => h9) rfl dX11_stands0_109 ?_
              refine lv_iconst (v := 5) hx hb dX11_stands0_112 (by decide) ?_
              refine lv_aload_n hx hb dX11_stands0_113 rfl (lv_at hl 0 rfl) ?_
              refine va_get (v := .ref to_) (T := TX11) (N := 35) hx hb hts inX11 hown hK hP 0 rfl rfl 11 (by decide) f23 (fun _ h9 => h9) rfl dX11_stands0_114 ?_
              refine lv_bipush (v := 9) hx hb dX11_stands0_117 (by decide) ?_
              refine he_iald hx hb hK hP 2 rfl (9) (by decide) (by decide) (by first | decide | assumption) (rt 9) rfl dX11_stands0_119 ?_
              refine he_iast hx hb hK hP hD hS 3 rfl (5) (by decide) (by decide) (by first | decide | assumption) dX11_stands0_120 (fun H locs hP hD hS => ?_)
              have hP : va_P g.1 vwCl ([(oX11 m0 tw ta sz_ pl at_ fa fw cs fd rfm rt_ to_ rw_ wa ct rk rb cn br sm as_ go sh_ ir oa ob th ig sp_ ki tg of_ kp sf rs), (aI g rt_ 25 rt), (aI g to_ 25 (flF rt tf 25)), (aI g sm 25 (upd (upd (upd (upd (upd (upd (flF (fun _ => 0) sf0 25) 0 (rt 1)) 1 (rt 4)) 2 (rt 7)) 3 (rt 2)) 4 (rt 5)) 5 (rt 9))), (aM g rw_ 6 (he_ro 6 r1)), (aM g wa 6 (he_ro 6 r2)), (aM g sh_ 120 (he_ro 120 r6)), (aM g ki 4 (he_ro 4 r7)), (aM g of_ 2 (he_ro 2 r9))] ++ he_pl g L ln M) H := hP
              have hD : va_D A ([(oX11 m0 tw ta sz_ pl at_ fa fw cs fd rfm rt_ to_ rw_ wa ct rk rb cn br sm as_ go sh_ ir oa ob th ig sp_ ki tg of_ kp sf rs), (aI g rt_ 25 rt), (aI g to_ 25 (flF rt tf 25)), (aI g sm 25 (upd (upd (upd (upd (upd (upd (flF (fun _ => 0) sf0 25) 0 (rt 1)) 1 (rt 4)) 2 (rt 7)) 3 (rt 2)) 4 (rt 5)) 5 (rt 9))), (aM g rw_ 6 (he_ro 6 r1)), (aM g wa 6 (he_ro 6 r2)), (aM g sh_ 120 (he_ro 120 r6)), (aM g ki 4 (he_ro 4 r7)), (aM g of_ 2 (he_ro 2 r9))] ++ he_pl g L ln M) := hD
              refine lv_aload_n hx hb dX11_stands0_121 rfl (lv_at hl 0 rfl) ?_
              refine va_get (v := .ref sm) (T := TX11) (N := 35) hx hb hts inX11 hown hK hP 0 rfl rfl 19 (by decide) f46 (fun _ h9 => h9) rfl dX11_stands0_122 ?_
              refine lv_bipush (v := 10) hx hb dX11_stands0_125 (by decide) ?_
              refine lv_iconst (v := (-1)) hx hb dX11_stands0_127 (by decide) ?_
              refine he_iast hx hb hK hP hD hS 3 rfl (10) (by decide) (by decide) (by first | decide | assumption) dX11_stands0_128 (fun H locs hP hD hS => ?_)
              have hP : va_P g.1 vwCl ([(oX11 m0 tw ta sz_ pl at_ fa fw cs fd rfm rt_ to_ rw_ wa ct rk rb cn br sm as_ go sh_ ir oa ob th ig sp_ ki tg of_ kp sf rs), (aI g rt_ 25 rt), (aI g to_ 25 (flF rt tf 25)), (aI g sm 25 (upd (upd (upd (upd (upd (upd (upd (flF (fun _ => 0) sf0 25) 0 (rt 1)) 1 (rt 4)) 2 (rt 7)) 3 (rt 2)) 4 (rt 5)) 5 (rt 9)) 10 (-1))), (aM g rw_ 6 (he_ro 6 r1)), (aM g wa 6 (he_ro 6 r2)), (aM g sh_ 120 (he_ro 120 r6)), (aM g ki 4 (he_ro 4 r7)), (aM g of_ 2 (he_ro 2 r9))] ++ he_pl g L ln M) H := hP
              have hD : va_D A ([(oX11 m0 tw ta sz_ pl at_ fa fw cs fd rfm rt_ to_ rw_ wa ct rk rb cn br sm as_ go sh_ ir oa ob th ig sp_ ki tg of_ kp sf rs), (aI g rt_ 25 rt), (aI g to_ 25 (flF rt tf 25)), (aI g sm 25 (upd (upd (upd (upd (upd (upd (upd (flF (fun _ => 0) sf0 25) 0 (rt 1)) 1 (rt 4)) 2 (rt 7)) 3 (rt 2)) 4 (rt 5)) 5 (rt 9)) 10 (-1))), (aM g rw_ 6 (he_ro 6 r1)), (aM g wa 6 (he_ro 6 r2)), (aM g sh_ 120 (he_ro 120 r6)), (aM g ki 4 (he_ro 4 r7)), (aM g of_ 2 (he_ro 2 r9))] ++ he_pl g L ln M) := hD
              refine lv_aload_n hx hb dX11_stands0_129 rfl (lv_at hl 0 rfl) ?_
              refine va_get (v := .ref sm) (T := TX11) (N := 35) hx hb hts inX11 hown hK hP 0 rfl rfl 19 (by decide) f46 (fun _ h9 => h9) rfl dX11_stands0_130 ?_
              refine lv_bipush (v := 11) hx hb dX11_stands0_133 (by decide) ?_
              refine lv_iconst (v := (-1)) hx hb dX11_stands0_135 (by decide) ?_
              refine he_iast hx hb hK hP hD hS 3 rfl (11) (by decide) (by decide) (by first | decide | assumption) dX11_stands0_136 (fun H locs hP hD hS => ?_)
              have hP : va_P g.1 vwCl ([(oX11 m0 tw ta sz_ pl at_ fa fw cs fd rfm rt_ to_ rw_ wa ct rk rb cn br sm as_ go sh_ ir oa ob th ig sp_ ki tg of_ kp sf rs), (aI g rt_ 25 rt), (aI g to_ 25 (flF rt tf 25)), (aI g sm 25 (upd (upd (upd (upd (upd (upd (upd (upd (flF (fun _ => 0) sf0 25) 0 (rt 1)) 1 (rt 4)) 2 (rt 7)) 3 (rt 2)) 4 (rt 5)) 5 (rt 9)) 10 (-1)) 11 (-1))), (aM g rw_ 6 (he_ro 6 r1)), (aM g wa 6 (he_ro 6 r2)), (aM g sh_ 120 (he_ro 120 r6)), (aM g ki 4 (he_ro 4 r7)), (aM g of_ 2 (he_ro 2 r9))] ++ he_pl g L ln M) H := hP
              have hD : va_D A ([(oX11 m0 tw ta sz_ pl at_ fa fw cs fd rfm rt_ to_ rw_ wa ct rk rb cn br sm as_ go sh_ ir oa ob th ig sp_ ki tg of_ kp sf rs), (aI g rt_ 25 rt), (aI g to_ 25 (flF rt tf 25)), (aI g sm 25 (upd (upd (upd (upd (upd (upd (upd (upd (flF (fun _ => 0) sf0 25) 0 (rt 1)) 1 (rt 4)) 2 (rt 7)) 3 (rt 2)) 4 (rt 5)) 5 (rt 9)) 10 (-1)) 11 (-1))), (aM g rw_ 6 (he_ro 6 r1)), (aM g wa 6 (he_ro 6 r2)), (aM g sh_ 120 (he_ro 120 r6)), (aM g ki 4 (he_ro 4 r7)), (aM g of_ 2 (he_ro 2 r9))] ++ he_pl g L ln M) := hD
              have hP : va_P g.1 vwCl ([(oX11 m0 tw ta sz_ pl at_ fa fw cs fd rfm rt_ to_ rw_ wa ct rk rb cn br sm as_ go sh_ ir oa ob th ig sp_ ki tg of_ kp sf rs), (aI g rt_ 25 rt), (aI g to_ 25 (flF rt tf 25)), (aI g sm 25 (sbF rt sf0)), (aM g rw_ 6 (he_ro 6 r1)), (aM g wa 6 (he_ro 6 r2)), (aM g sh_ 120 (he_ro 120 r6)), (aM g ki 4 (he_ro 4 r7)), (aM g of_ 2 (he_ro 2 r9))] ++ he_pl g L ln M) H := hP
              have hD : va_D A ([(oX11 m0 tw ta sz_ pl at_ fa fw cs fd rfm rt_ to_ rw_ wa ct rk rb cn br sm as_ go sh_ ir oa ob th ig sp_ ki tg of_ kp sf rs), (aI g rt_ 25 rt), (aI g to_ 25 (flF rt tf 25)), (aI g sm 25 (sbF rt sf0)), (aM g rw_ 6 (he_ro 6 r1)), (aM g wa 6 (he_ro 6 r2)), (aM g sh_ 120 (he_ro 120 r6)), (aM g ki 4 (he_ro 4 r7)), (aM g of_ 2 (he_ro 2 r9))] ++ he_pl g L ln M) := hD
              refine lv_iconst (v := 0) hx hb dX11_stands0_137 (by decide) ?_
              refine lv_istore_n (lv' := [(1, .int 0), (0, .ref m0)]) hx hb dX11_stands0_138 rfl hl (by decide) rfl (fun ls hl => ?_)
              have loop139 : ∀ (n9 : Nat) (q : Nat) (F : Nat → Int32) (Mj : Nat → Nat → Int32), w - q < n9 → (q ≤ w) → (F 10 = -1) → (F 24 = 0) → (F = lwF (sbF rt sf0) (fun k9 => M (r1 k9) 0) q) → (∀ i, i < 6 → Mj (r1 i) = M (r1 i)) → (wKp r1 r2 q 0 M Mj) → ∀ (H : Heap) (locs : List Loc) (ls : Array Slot), va_P g.1 vwCl ([(oX11 m0 tw ta sz_ pl at_ fa fw cs fd rfm rt_ to_ rw_ wa ct rk rb cn br sm as_ go sh_ ir oa ob th ig sp_ ki tg of_ kp sf rs), (aI g rt_ 25 rt), (aI g to_ 25 (flF rt tf 25)), (aI g sm 25 F), (aM g rw_ 6 (he_ro 6 r1)), (aM g wa 6 (he_ro 6 r2)), (aM g sh_ 120 (he_ro 120 r6)), (aM g ki 4 (he_ro 4 r7)), (aM g of_ 2 (he_ro 2 r9))] ++ he_pl g L ln Mj) H → va_D A ([(oX11 m0 tw ta sz_ pl at_ fa fw cs fd rfm rt_ to_ rw_ wa ct rk rb cn br sm as_ go sh_ ir oa ob th ig sp_ ki tg of_ kp sf rs), (aI g rt_ 25 rt), (aI g to_ 25 (flF rt tf 25)), (aI g sm 25 F), (aM g rw_ 6 (he_ro 6 r1)), (aM g wa 6 (he_ro 6 r2)), (aM g sh_ 120 (he_ro 120 r6)), (aM g ki 4 (he_ro 4 r7)), (aM g of_ 2 (he_ro 2 r9))] ++ he_pl g L ln Mj) → va_S A s.heap H locs → lv_has ls 3 [(0, .ref m0), (1, .int (nI q))] → W p l e (he_room 0 0 0 0) s m args below meth c H locs 0 0 Q (F0 m 139 ls []) := by
                intro n9
                induction n9 with
                | zero => intro q F Mj hm9; exact absurd hm9 (Nat.not_lt_zero _)
                | succ n9 ih139 =>
                  intro q F Mj hm9 hq hs10 hs24 hF hk1 hwk H locs ls hP hD hS hl
                  refine lv_iload_n hx hb dX11_stands0_139 rfl (lv_at hl 1 rfl) ?_
                  refine lv_aload_n hx hb dX11_stands0_140 rfl (lv_at hl 0 rfl) ?_
                  refine va_get (v := .ref to_) (T := TX11) (N := 35) hx hb hts inX11 hown hK hP 0 rfl rfl 11 (by decide) f23 (fun _ h9 => h9) rfl dX11_stands0_141 ?_
                  refine lv_iconst (v := 0) hx hb dX11_stands0_144 (by decide) ?_
                  refine he_iald hx hb hK hP 2 rfl (0) (by decide) (by decide) (by first | decide | assumption) (nI w) hrt dX11_stands0_145 ?_
                  refine lv_icmp_ge (tgt := 201) hx hb dX11_stands0_146 (by decide) (fun c_5 => ?_) (fun c_5 => ?_)
                  · have k_6 : w ≤ q := (he_cle (a := w) (b := q) rfl rfl (by omega) (by omega)).mp c_5
                    refine lv_iconst (v := 0) hx hb dX11_stands0_201 (by decide) ?_
                    refine lv_istore_n (lv' := [(1, .int 0), (0, .ref m0)]) hx hb dX11_stands0_202 rfl hl (by decide) rfl (fun ls hl => ?_)
                    have loop203 : ∀ (n9 : Nat) (i3 : Nat) (Mj : Nat → Nat → Int32), 120 - i3 < n9 → (i3 ≤ 120) → (wKp r1 r2 w 0 M Mj) → ∀ (H : Heap) (locs : List Loc) (ls : Array Slot), va_P g.1 vwCl ([(oX11 m0 tw ta sz_ pl at_ fa fw cs fd rfm rt_ to_ rw_ wa ct rk rb cn br sm as_ go sh_ ir oa ob th ig sp_ ki tg of_ kp sf rs), (aI g rt_ 25 rt), (aI g to_ 25 (flF rt tf 25)), (aI g sm 25 F), (aM g rw_ 6 (he_ro 6 r1)), (aM g wa 6 (he_ro 6 r2)), (aM g sh_ 120 (he_ro 120 r6)), (aM g ki 4 (he_ro 4 r7)), (aM g of_ 2 (he_ro 2 r9))] ++ he_pl g L ln Mj) H → va_D A ([(oX11 m0 tw ta sz_ pl at_ fa fw cs fd rfm rt_ to_ rw_ wa ct rk rb cn br sm as_ go sh_ ir oa ob th ig sp_ ki tg of_ kp sf rs), (aI g rt_ 25 rt), (aI g to_ 25 (flF rt tf 25)), (aI g sm 25 F), (aM g rw_ 6 (he_ro 6 r1)), (aM g wa 6 (he_ro 6 r2)), (aM g sh_ 120 (he_ro 120 r6)), (aM g ki 4 (he_ro 4 r7)), (aM g of_ 2 (he_ro 2 r9))] ++ he_pl g L ln Mj) → va_S A s.heap H locs → lv_has ls 3 [(0, .ref m0), (1, .int (nI i3))] → W p l e (he_room 0 0 0 0) s m args below meth c H locs 0 0 Q (F0 m 203 ls []) := by
                      intro n9
                      induction n9 with
                      | zero => intro i3 Mj hm9; exact absurd hm9 (Nat.not_lt_zero _)
                      | succ n9 ih203 =>
                        intro i3 Mj hm9 hi3 hwk H locs ls hP hD hS hl
                        refine lv_iload_n hx hb dX11_stands0_203 rfl (lv_at hl 1 rfl) ?_
                        refine lv_bipush (v := 120) hx hb dX11_stands0_204 (by decide) ?_
                        refine lv_icmp_ge (tgt := 238) hx hb dX11_stands0_206 (by decide) (fun c_7 => ?_) (fun c_7 => ?_)
                        · have k_8 : 120 ≤ i3 := (he_cle (a := 120) (b := i3) (by decide) rfl (by omega) (by omega)).mp c_7
                          refine lv_iconst (v := 0) hx hb dX11_stands0_238 (by decide) ?_
                          refine lv_istore_n (lv' := [(1, .int 0), (0, .ref m0)]) hx hb dX11_stands0_239 rfl hl (by decide) rfl (fun ls hl => ?_)
                          have loop240 : ∀ (n9 : Nat) (i4 : Nat) (Mj : Nat → Nat → Int32), 4 - i4 < n9 → (i4 ≤ 4) → (wKp r1 r2 w 0 M Mj) → (rset r7 2 8 Mj i4 0) → ∀ (H : Heap) (locs : List Loc) (ls : Array Slot), va_P g.1 vwCl ([(oX11 m0 tw ta sz_ pl at_ fa fw cs fd rfm rt_ to_ rw_ wa ct rk rb cn br sm as_ go sh_ ir oa ob th ig sp_ ki tg of_ kp sf rs), (aI g rt_ 25 rt), (aI g to_ 25 (flF rt tf 25)), (aI g sm 25 F), (aM g rw_ 6 (he_ro 6 r1)), (aM g wa 6 (he_ro 6 r2)), (aM g sh_ 120 (he_ro 120 r6)), (aM g ki 4 (he_ro 4 r7)), (aM g of_ 2 (he_ro 2 r9))] ++ he_pl g L ln Mj) H → va_D A ([(oX11 m0 tw ta sz_ pl at_ fa fw cs fd rfm rt_ to_ rw_ wa ct rk rb cn br sm as_ go sh_ ir oa ob th ig sp_ ki tg of_ kp sf rs), (aI g rt_ 25 rt), (aI g to_ 25 (flF rt tf 25)), (aI g sm 25 F), (aM g rw_ 6 (he_ro 6 r1)), (aM g wa 6 (he_ro 6 r2)), (aM g sh_ 120 (he_ro 120 r6)), (aM g ki 4 (he_ro 4 r7)), (aM g of_ 2 (he_ro 2 r9))] ++ he_pl g L ln Mj) → va_S A s.heap H locs → lv_has ls 3 [(0, .ref m0), (1, .int (nI i4))] → W p l e (he_room 0 0 0 0) s m args below meth c H locs 0 0 Q (F0 m 240 ls []) := by
                            intro n9
                            induction n9 with
                            | zero => intro i4 Mj hm9; exact absurd hm9 (Nat.not_lt_zero _)
                            | succ n9 ih240 =>
                              intro i4 Mj hm9 hi4 hwk hz H locs ls hP hD hS hl
                              refine lv_iload_n hx hb dX11_stands0_240 rfl (lv_at hl 1 rfl) ?_
                              refine lv_iconst (v := 4) hx hb dX11_stands0_241 (by decide) ?_
                              refine lv_icmp_ge (tgt := 274) hx hb dX11_stands0_242 (by decide) (fun c_9 => ?_) (fun c_9 => ?_)
                              · have k_10 : 4 ≤ i4 := (he_cle (a := 4) (b := i4) (by decide) rfl (by omega) (by omega)).mp c_9
                                refine lv_iconst (v := 0) hx hb dX11_stands0_274 (by decide) ?_
                                refine lv_istore_n (lv' := [(1, .int 0), (0, .ref m0)]) hx hb dX11_stands0_275 rfl hl (by decide) rfl (fun ls hl => ?_)
                                have loop276 : ∀ (n9 : Nat) (i5 : Nat) (Mj : Nat → Nat → Int32), 2 - i5 < n9 → (i5 ≤ 2) → (wKp r1 r2 w 0 M Mj) → (rset r7 2 8 Mj 4 0) → (rset r9 12 0 Mj i5 0) → ∀ (H : Heap) (locs : List Loc) (ls : Array Slot), va_P g.1 vwCl ([(oX11 m0 tw ta sz_ pl at_ fa fw cs fd rfm rt_ to_ rw_ wa ct rk rb cn br sm as_ go sh_ ir oa ob th ig sp_ ki tg of_ kp sf rs), (aI g rt_ 25 rt), (aI g to_ 25 (flF rt tf 25)), (aI g sm 25 F), (aM g rw_ 6 (he_ro 6 r1)), (aM g wa 6 (he_ro 6 r2)), (aM g sh_ 120 (he_ro 120 r6)), (aM g ki 4 (he_ro 4 r7)), (aM g of_ 2 (he_ro 2 r9))] ++ he_pl g L ln Mj) H → va_D A ([(oX11 m0 tw ta sz_ pl at_ fa fw cs fd rfm rt_ to_ rw_ wa ct rk rb cn br sm as_ go sh_ ir oa ob th ig sp_ ki tg of_ kp sf rs), (aI g rt_ 25 rt), (aI g to_ 25 (flF rt tf 25)), (aI g sm 25 F), (aM g rw_ 6 (he_ro 6 r1)), (aM g wa 6 (he_ro 6 r2)), (aM g sh_ 120 (he_ro 120 r6)), (aM g ki 4 (he_ro 4 r7)), (aM g of_ 2 (he_ro 2 r9))] ++ he_pl g L ln Mj) → va_S A s.heap H locs → lv_has ls 3 [(0, .ref m0), (1, .int (nI i5))] → W p l e (he_room 0 0 0 0) s m args below meth c H locs 0 0 Q (F0 m 276 ls []) := by
                                  intro n9
                                  induction n9 with
                                  | zero => intro i5 Mj hm9; exact absurd hm9 (Nat.not_lt_zero _)
                                  | succ n9 ih276 =>
                                    intro i5 Mj hm9 hi5 hwk hy hz H locs ls hP hD hS hl
                                    refine lv_iload_n hx hb dX11_stands0_276 rfl (lv_at hl 1 rfl) ?_
                                    refine lv_iconst (v := 2) hx hb dX11_stands0_277 (by decide) ?_
                                    refine lv_icmp_ge (tgt := 310) hx hb dX11_stands0_278 (by decide) (fun c_11 => ?_) (fun c_11 => ?_)
                                    · have k_12 : 2 ≤ i5 := (he_cle (a := 2) (b := i5) (by decide) rfl (by omega) (by omega)).mp c_11
                                      refine lv_aload_n hx hb dX11_stands0_310 rfl (lv_at hl 0 rfl) ?_
                                      refine lv_iconst (v := 0) hx hb dX11_stands0_311 (by decide) ?_
                                      refine va_put (v := .int 0) (ty := .int) (T := TX11) (N := 35) hx hb hts inX11 tyX11 tyX11_ok nmX11 hown hK hP hD hS 0 rfl rfl 14 (by decide) f162 (fun _ h9 => h9) rfl (by decide +kernel) rfl rfl (Nat.le_of_ble_eq_true rfl) dX11_stands0_312 (fun H locs hP hD hS => ?_)
                                      have hP : va_P g.1 vwCl ([(oX11 m0 tw ta sz_ pl at_ fa fw cs fd rfm rt_ to_ rw_ wa 0 rk rb cn br sm as_ go sh_ ir oa ob th ig sp_ ki tg of_ kp sf rs), (aI g rt_ 25 rt), (aI g to_ 25 (flF rt tf 25)), (aI g sm 25 F), (aM g rw_ 6 (he_ro 6 r1)), (aM g wa 6 (he_ro 6 r2)), (aM g sh_ 120 (he_ro 120 r6)), (aM g ki 4 (he_ro 4 r7)), (aM g of_ 2 (he_ro 2 r9))] ++ he_pl g L ln Mj) H := hP
                                      have hD : va_D A ([(oX11 m0 tw ta sz_ pl at_ fa fw cs fd rfm rt_ to_ rw_ wa 0 rk rb cn br sm as_ go sh_ ir oa ob th ig sp_ ki tg of_ kp sf rs), (aI g rt_ 25 rt), (aI g to_ 25 (flF rt tf 25)), (aI g sm 25 F), (aM g rw_ 6 (he_ro 6 r1)), (aM g wa 6 (he_ro 6 r2)), (aM g sh_ 120 (he_ro 120 r6)), (aM g ki 4 (he_ro 4 r7)), (aM g of_ 2 (he_ro 2 r9))] ++ he_pl g L ln Mj) := hD
                                      refine lv_aload_n hx hb dX11_stands0_315 rfl (lv_at hl 0 rfl) ?_
                                      refine lv_iconst (v := 1) hx hb dX11_stands0_316 (by decide) ?_
                                      refine va_put (v := .int 1) (ty := .int) (T := TX11) (N := 35) hx hb hts inX11 tyX11 tyX11_ok nmX11 hown hK hP hD hS 0 rfl rfl 24 (by decide) f58 (fun _ h9 => h9) rfl (by decide +kernel) rfl rfl (Nat.le_of_ble_eq_true rfl) dX11_stands0_317 (fun H locs hP hD hS => ?_)
                                      have hP : va_P g.1 vwCl ([(oX11 m0 tw ta sz_ pl at_ fa fw cs fd rfm rt_ to_ rw_ wa 0 rk rb cn br sm as_ go sh_ ir 1 ob th ig sp_ ki tg of_ kp sf rs), (aI g rt_ 25 rt), (aI g to_ 25 (flF rt tf 25)), (aI g sm 25 F), (aM g rw_ 6 (he_ro 6 r1)), (aM g wa 6 (he_ro 6 r2)), (aM g sh_ 120 (he_ro 120 r6)), (aM g ki 4 (he_ro 4 r7)), (aM g of_ 2 (he_ro 2 r9))] ++ he_pl g L ln Mj) H := hP
                                      have hD : va_D A ([(oX11 m0 tw ta sz_ pl at_ fa fw cs fd rfm rt_ to_ rw_ wa 0 rk rb cn br sm as_ go sh_ ir 1 ob th ig sp_ ki tg of_ kp sf rs), (aI g rt_ 25 rt), (aI g to_ 25 (flF rt tf 25)), (aI g sm 25 F), (aM g rw_ 6 (he_ro 6 r1)), (aM g wa 6 (he_ro 6 r2)), (aM g sh_ 120 (he_ro 120 r6)), (aM g ki 4 (he_ro 4 r7)), (aM g of_ 2 (he_ro 2 r9))] ++ he_pl g L ln Mj) := hD
                                      refine lv_aload_n hx hb dX11_stands0_320 rfl (lv_at hl 0 rfl) ?_
                                      refine lv_iconst (v := 1) hx hb dX11_stands0_321 (by decide) ?_
                                      refine va_put (v := .int 1) (ty := .int) (T := TX11) (N := 35) hx hb hts inX11 tyX11 tyX11_ok nmX11 hown hK hP hD hS 0 rfl rfl 25 (by decide) f61 (fun _ h9 => h9) rfl (by decide +kernel) rfl rfl (Nat.le_of_ble_eq_true rfl) dX11_stands0_322 (fun H locs hP hD hS => ?_)
                                      have hP : va_P g.1 vwCl ([(oX11 m0 tw ta sz_ pl at_ fa fw cs fd rfm rt_ to_ rw_ wa 0 rk rb cn br sm as_ go sh_ ir 1 1 th ig sp_ ki tg of_ kp sf rs), (aI g rt_ 25 rt), (aI g to_ 25 (flF rt tf 25)), (aI g sm 25 F), (aM g rw_ 6 (he_ro 6 r1)), (aM g wa 6 (he_ro 6 r2)), (aM g sh_ 120 (he_ro 120 r6)), (aM g ki 4 (he_ro 4 r7)), (aM g of_ 2 (he_ro 2 r9))] ++ he_pl g L ln Mj) H := hP
                                      have hD : va_D A ([(oX11 m0 tw ta sz_ pl at_ fa fw cs fd rfm rt_ to_ rw_ wa 0 rk rb cn br sm as_ go sh_ ir 1 1 th ig sp_ ki tg of_ kp sf rs), (aI g rt_ 25 rt), (aI g to_ 25 (flF rt tf 25)), (aI g sm 25 F), (aM g rw_ 6 (he_ro 6 r1)), (aM g wa 6 (he_ro 6 r2)), (aM g sh_ 120 (he_ro 120 r6)), (aM g ki 4 (he_ro 4 r7)), (aM g of_ 2 (he_ro 2 r9))] ++ he_pl g L ln Mj) := hD
                                      refine lv_aload_n hx hb dX11_stands0_325 rfl (lv_at hl 0 rfl) ?_
                                      refine lv_iconst (v := 0) hx hb dX11_stands0_326 (by decide) ?_
                                      refine va_put (v := .int 0) (ty := .int) (T := TX11) (N := 35) hx hb hts inX11 tyX11 tyX11_ok nmX11 hown hK hP hD hS 0 rfl rfl 26 (by decide) f165 (fun _ h9 => h9) rfl (by decide +kernel) rfl rfl (Nat.le_of_ble_eq_true rfl) dX11_stands0_327 (fun H locs hP hD hS => ?_)
                                      have hP : va_P g.1 vwCl ([(oX11 m0 tw ta sz_ pl at_ fa fw cs fd rfm rt_ to_ rw_ wa 0 rk rb cn br sm as_ go sh_ ir 1 1 0 ig sp_ ki tg of_ kp sf rs), (aI g rt_ 25 rt), (aI g to_ 25 (flF rt tf 25)), (aI g sm 25 F), (aM g rw_ 6 (he_ro 6 r1)), (aM g wa 6 (he_ro 6 r2)), (aM g sh_ 120 (he_ro 120 r6)), (aM g ki 4 (he_ro 4 r7)), (aM g of_ 2 (he_ro 2 r9))] ++ he_pl g L ln Mj) H := hP
                                      have hD : va_D A ([(oX11 m0 tw ta sz_ pl at_ fa fw cs fd rfm rt_ to_ rw_ wa 0 rk rb cn br sm as_ go sh_ ir 1 1 0 ig sp_ ki tg of_ kp sf rs), (aI g rt_ 25 rt), (aI g to_ 25 (flF rt tf 25)), (aI g sm 25 F), (aM g rw_ 6 (he_ro 6 r1)), (aM g wa 6 (he_ro 6 r2)), (aM g sh_ 120 (he_ro 120 r6)), (aM g ki 4 (he_ro 4 r7)), (aM g of_ 2 (he_ro 2 r9))] ++ he_pl g L ln Mj) := hD
                                      refine lv_aload_n hx hb dX11_stands0_330 rfl (lv_at hl 0 rfl) ?_
                                      refine lv_iconst (v := 0) hx hb dX11_stands0_331 (by decide) ?_
                                      refine va_put (v := .int 0) (ty := .int) (T := TX11) (N := 35) hx hb hts inX11 tyX11 tyX11_ok nmX11 hown hK hP hD hS 0 rfl rfl 27 (by decide) f168 (fun _ h9 => h9) rfl (by decide +kernel) rfl rfl (Nat.le_of_ble_eq_true rfl) dX11_stands0_332 (fun H locs hP hD hS => ?_)
                                      have hP : va_P g.1 vwCl ([(oX11 m0 tw ta sz_ pl at_ fa fw cs fd rfm rt_ to_ rw_ wa 0 rk rb cn br sm as_ go sh_ ir 1 1 0 0 sp_ ki tg of_ kp sf rs), (aI g rt_ 25 rt), (aI g to_ 25 (flF rt tf 25)), (aI g sm 25 F), (aM g rw_ 6 (he_ro 6 r1)), (aM g wa 6 (he_ro 6 r2)), (aM g sh_ 120 (he_ro 120 r6)), (aM g ki 4 (he_ro 4 r7)), (aM g of_ 2 (he_ro 2 r9))] ++ he_pl g L ln Mj) H := hP
                                      have hD : va_D A ([(oX11 m0 tw ta sz_ pl at_ fa fw cs fd rfm rt_ to_ rw_ wa 0 rk rb cn br sm as_ go sh_ ir 1 1 0 0 sp_ ki tg of_ kp sf rs), (aI g rt_ 25 rt), (aI g to_ 25 (flF rt tf 25)), (aI g sm 25 F), (aM g rw_ 6 (he_ro 6 r1)), (aM g wa 6 (he_ro 6 r2)), (aM g sh_ 120 (he_ro 120 r6)), (aM g ki 4 (he_ro 4 r7)), (aM g of_ 2 (he_ro 2 r9))] ++ he_pl g L ln Mj) := hD
                                      exact he_rv hQ hx hb hr hlk hP hD hS dX11_stands0_335 (Nat.le_of_ble_eq_true rfl) (Nat.le_of_ble_eq_true rfl) ((F, Mj)) (rfl) (by (try dsimp only); exact ⟨hs10, hs24, ⟨fun i hi b hb => hy.1 i hi b hb, fun i hi b hb => hz.1 i (by (try dsimp only); omega) b hb⟩, by (try dsimp only); rw [hF, show q = w by (try dsimp only); omega], hwk.1⟩)
                                    · have k_13 : ¬ (2 ≤ i5) := fun h9 => c_11 ((he_cle (a := 2) (b := i5) (by decide) rfl (by omega) (by omega)).mpr h9)
                                      refine lv_iconst (v := 0) hx hb dX11_stands0_281 (by decide) ?_
                                      refine lv_istore_n (lv' := [(2, .int 0), (0, .ref m0), (1, .int (nI i5))]) hx hb dX11_stands0_282 rfl hl (by decide) rfl (fun ls hl => ?_)
                                      have loop283 : ∀ (n9 : Nat) (j5 : Nat) (Mj : Nat → Nat → Int32), 12 - j5 < n9 → (j5 ≤ 12) → (wKp r1 r2 w 0 M Mj) → (rset r7 2 8 Mj 4 0) → (rset r9 12 0 Mj i5 j5) → ∀ (H : Heap) (locs : List Loc) (ls : Array Slot), va_P g.1 vwCl ([(oX11 m0 tw ta sz_ pl at_ fa fw cs fd rfm rt_ to_ rw_ wa ct rk rb cn br sm as_ go sh_ ir oa ob th ig sp_ ki tg of_ kp sf rs), (aI g rt_ 25 rt), (aI g to_ 25 (flF rt tf 25)), (aI g sm 25 F), (aM g rw_ 6 (he_ro 6 r1)), (aM g wa 6 (he_ro 6 r2)), (aM g sh_ 120 (he_ro 120 r6)), (aM g ki 4 (he_ro 4 r7)), (aM g of_ 2 (he_ro 2 r9))] ++ he_pl g L ln Mj) H → va_D A ([(oX11 m0 tw ta sz_ pl at_ fa fw cs fd rfm rt_ to_ rw_ wa ct rk rb cn br sm as_ go sh_ ir oa ob th ig sp_ ki tg of_ kp sf rs), (aI g rt_ 25 rt), (aI g to_ 25 (flF rt tf 25)), (aI g sm 25 F), (aM g rw_ 6 (he_ro 6 r1)), (aM g wa 6 (he_ro 6 r2)), (aM g sh_ 120 (he_ro 120 r6)), (aM g ki 4 (he_ro 4 r7)), (aM g of_ 2 (he_ro 2 r9))] ++ he_pl g L ln Mj) → va_S A s.heap H locs → lv_has ls 3 [(0, .ref m0), (1, .int (nI i5)), (2, .int (nI j5))] → W p l e (he_room 0 0 0 0) s m args below meth c H locs 0 0 Q (F0 m 283 ls []) := by
                                        intro n9
                                        induction n9 with
                                        | zero => intro j5 Mj hm9; exact absurd hm9 (Nat.not_lt_zero _)
                                        | succ n9 ih283 =>
                                          intro j5 Mj hm9 hj5 hwk hy hz H locs ls hP hD hS hl
                                          refine lv_iload_n hx hb dX11_stands0_283 rfl (lv_at hl 2 rfl) ?_
                                          refine lv_bipush (v := 12) hx hb dX11_stands0_284 (by decide) ?_
                                          refine lv_icmp_ge (tgt := 304) hx hb dX11_stands0_286 (by decide) (fun c_14 => ?_) (fun c_14 => ?_)
                                          · have k_15 : 12 ≤ j5 := (he_cle (a := 12) (b := j5) (by decide) rfl (by omega) (by omega)).mp c_14
                                            refine lv_iinc (v := nI (i5 + 1)) (lv' := [(1, .int (nI (i5 + 1))), (0, .ref m0), (2, .int (nI j5))]) hx hb dX11_stands0_304 hl (k := 1) rfl (nI_1 i5) (by decide) rfl (fun ls hl => ?_)
                                            refine lv_goto (tgt := 276) hx hb dX11_stands0_307 (by decide) ?_
                                            exact ih276 (i5 + 1) Mj (by omega) (by omega) hwk hy (rset_n (by omega) hz) _ _ _ hP hD hS (lv_sub hl [1, 0] rfl)
                                          · have k_16 : ¬ (12 ≤ j5) := fun h9 => c_14 ((he_cle (a := 12) (b := j5) (by decide) rfl (by omega) (by omega)).mpr h9)
                                            refine lv_aload_n hx hb dX11_stands0_289 rfl (lv_at hl 0 rfl) ?_
                                            refine va_get (v := .ref of_) (T := TX11) (N := 35) hx hb hts inX11 hown hK hP 0 rfl rfl 31 (by decide) f70 (fun _ h9 => h9) rfl dX11_stands0_290 ?_
                                            refine lv_iload_n hx hb dX11_stands0_293 rfl (lv_at hl 1 rfl) ?_
                                            refine he_aldm hx hb hK hP 8 rfl (i5) rfl (by first | assumption | decide | omega) (by decide) dX11_stands0_294 ?_
                                            refine lv_iload_n hx hb dX11_stands0_295 rfl (lv_at hl 2 rfl) ?_
                                            refine lv_iconst (v := 0) hx hb dX11_stands0_296 (by decide) ?_
                                            refine he_past hx hb hK hP hD hS (F_r9 i5 (by first | assumption | decide | omega)).1 (j5) rfl (by rw [(F_r9 i5 (by first | assumption | decide | omega)).2.1]; exact (by first | assumption | decide | omega)) (by rw [(F_r9 i5 (by first | assumption | decide | omega)).2.1]; decide) dX11_stands0_297 (fun H locs hP hD hS => ?_)
                                            have hP : va_P g.1 vwCl ([(oX11 m0 tw ta sz_ pl at_ fa fw cs fd rfm rt_ to_ rw_ wa ct rk rb cn br sm as_ go sh_ ir oa ob th ig sp_ ki tg of_ kp sf rs), (aI g rt_ 25 rt), (aI g to_ 25 (flF rt tf 25)), (aI g sm 25 F), (aM g rw_ 6 (he_ro 6 r1)), (aM g wa 6 (he_ro 6 r2)), (aM g sh_ 120 (he_ro 120 r6)), (aM g ki 4 (he_ro 4 r7)), (aM g of_ 2 (he_ro 2 r9))] ++ he_pl g L ln (va_up Mj (r9 i5) (upd (Mj (r9 i5)) j5 0))) H := hP
                                            have hD : va_D A ([(oX11 m0 tw ta sz_ pl at_ fa fw cs fd rfm rt_ to_ rw_ wa ct rk rb cn br sm as_ go sh_ ir oa ob th ig sp_ ki tg of_ kp sf rs), (aI g rt_ 25 rt), (aI g to_ 25 (flF rt tf 25)), (aI g sm 25 F), (aM g rw_ 6 (he_ro 6 r1)), (aM g wa 6 (he_ro 6 r2)), (aM g sh_ 120 (he_ro 120 r6)), (aM g ki 4 (he_ro 4 r7)), (aM g of_ 2 (he_ro 2 r9))] ++ he_pl g L ln (va_up Mj (r9 i5) (upd (Mj (r9 i5)) j5 0))) := hD
                                            refine lv_iinc (v := nI (j5 + 1)) (lv' := [(2, .int (nI (j5 + 1))), (0, .ref m0), (1, .int (nI i5))]) hx hb dX11_stands0_298 hl (k := 2) rfl (nI_1 j5) (by decide) rfl (fun ls hl => ?_)
                                            refine lv_goto (tgt := 283) hx hb dX11_stands0_301 (by decide) ?_
                                            exact ih283 (j5 + 1) (va_up Mj (r9 i5) (upd (Mj (r9 i5)) j5 0)) (by omega) (by omega) (wk_k (fun q9 h9 => D_r2_r9 q9 i5 (by omega) (by omega)) hwk) (rset_k7 hy (fun q hq => D_r7_r9 q i5 hq (by omega)) _) (rset_s J_r9 (by omega) hz) _ _ _ hP hD hS (lv_sub hl [1, 2, 0] rfl)
                                      exact loop283 ((12 - 0) + 1) 0 Mj (Nat.lt_succ_self _) (Nat.zero_le _) hwk hy hz _ _ _ hP hD hS (lv_sub hl [1, 2, 0] rfl)
                                exact loop276 ((2 - 0) + 1) 0 Mj (Nat.lt_succ_self _) (Nat.zero_le _) hwk (by rw [show 4 = i4 by omega]; exact hz) (rset_0 _ _ _ _) _ _ _ hP hD hS (lv_sub hl [1, 0] rfl)
                              · have k_17 : ¬ (4 ≤ i4) := fun h9 => c_9 ((he_cle (a := 4) (b := i4) (by decide) rfl (by omega) (by omega)).mpr h9)
                                refine lv_iconst (v := 0) hx hb dX11_stands0_245 (by decide) ?_
                                refine lv_istore_n (lv' := [(2, .int 0), (0, .ref m0), (1, .int (nI i4))]) hx hb dX11_stands0_246 rfl hl (by decide) rfl (fun ls hl => ?_)
                                have loop247 : ∀ (n9 : Nat) (j4 : Nat) (Mj : Nat → Nat → Int32), 2 - j4 < n9 → (j4 ≤ 2) → (wKp r1 r2 w 0 M Mj) → (rset r7 2 8 Mj i4 j4) → ∀ (H : Heap) (locs : List Loc) (ls : Array Slot), va_P g.1 vwCl ([(oX11 m0 tw ta sz_ pl at_ fa fw cs fd rfm rt_ to_ rw_ wa ct rk rb cn br sm as_ go sh_ ir oa ob th ig sp_ ki tg of_ kp sf rs), (aI g rt_ 25 rt), (aI g to_ 25 (flF rt tf 25)), (aI g sm 25 F), (aM g rw_ 6 (he_ro 6 r1)), (aM g wa 6 (he_ro 6 r2)), (aM g sh_ 120 (he_ro 120 r6)), (aM g ki 4 (he_ro 4 r7)), (aM g of_ 2 (he_ro 2 r9))] ++ he_pl g L ln Mj) H → va_D A ([(oX11 m0 tw ta sz_ pl at_ fa fw cs fd rfm rt_ to_ rw_ wa ct rk rb cn br sm as_ go sh_ ir oa ob th ig sp_ ki tg of_ kp sf rs), (aI g rt_ 25 rt), (aI g to_ 25 (flF rt tf 25)), (aI g sm 25 F), (aM g rw_ 6 (he_ro 6 r1)), (aM g wa 6 (he_ro 6 r2)), (aM g sh_ 120 (he_ro 120 r6)), (aM g ki 4 (he_ro 4 r7)), (aM g of_ 2 (he_ro 2 r9))] ++ he_pl g L ln Mj) → va_S A s.heap H locs → lv_has ls 3 [(0, .ref m0), (1, .int (nI i4)), (2, .int (nI j4))] → W p l e (he_room 0 0 0 0) s m args below meth c H locs 0 0 Q (F0 m 247 ls []) := by
                                  intro n9
                                  induction n9 with
                                  | zero => intro j4 Mj hm9; exact absurd hm9 (Nat.not_lt_zero _)
                                  | succ n9 ih247 =>
                                    intro j4 Mj hm9 hj4 hwk hz H locs ls hP hD hS hl
                                    refine lv_iload_n hx hb dX11_stands0_247 rfl (lv_at hl 2 rfl) ?_
                                    refine lv_iconst (v := 2) hx hb dX11_stands0_248 (by decide) ?_
                                    refine lv_icmp_ge (tgt := 268) hx hb dX11_stands0_249 (by decide) (fun c_18 => ?_) (fun c_18 => ?_)
                                    · have k_19 : 2 ≤ j4 := (he_cle (a := 2) (b := j4) (by decide) rfl (by omega) (by omega)).mp c_18
                                      refine lv_iinc (v := nI (i4 + 1)) (lv' := [(1, .int (nI (i4 + 1))), (0, .ref m0), (2, .int (nI j4))]) hx hb dX11_stands0_268 hl (k := 1) rfl (nI_1 i4) (by decide) rfl (fun ls hl => ?_)
                                      refine lv_goto (tgt := 240) hx hb dX11_stands0_271 (by decide) ?_
                                      exact ih240 (i4 + 1) Mj (by omega) (by omega) hwk (rset_n (by omega) hz) _ _ _ hP hD hS (lv_sub hl [1, 0] rfl)
                                    · have k_20 : ¬ (2 ≤ j4) := fun h9 => c_18 ((he_cle (a := 2) (b := j4) (by decide) rfl (by omega) (by omega)).mpr h9)
                                      refine lv_aload_n hx hb dX11_stands0_252 rfl (lv_at hl 0 rfl) ?_
                                      refine va_get (v := .ref ki) (T := TX11) (N := 35) hx hb hts inX11 hown hK hP 0 rfl rfl 29 (by decide) f64 (fun _ h9 => h9) rfl dX11_stands0_253 ?_
                                      refine lv_iload_n hx hb dX11_stands0_256 rfl (lv_at hl 1 rfl) ?_
                                      refine he_aldm hx hb hK hP 7 rfl (i4) rfl (by first | assumption | decide | omega) (by decide) dX11_stands0_257 ?_
                                      refine lv_iload_n hx hb dX11_stands0_258 rfl (lv_at hl 2 rfl) ?_
                                      refine lv_bipush (v := 8) hx hb dX11_stands0_259 (by decide) ?_
                                      refine he_past hx hb hK hP hD hS (F_r7 i4 (by first | assumption | decide | omega)).1 (j4) rfl (by rw [(F_r7 i4 (by first | assumption | decide | omega)).2.1]; exact (by first | assumption | decide | omega)) (by rw [(F_r7 i4 (by first | assumption | decide | omega)).2.1]; decide) dX11_stands0_261 (fun H locs hP hD hS => ?_)
                                      have hP : va_P g.1 vwCl ([(oX11 m0 tw ta sz_ pl at_ fa fw cs fd rfm rt_ to_ rw_ wa ct rk rb cn br sm as_ go sh_ ir oa ob th ig sp_ ki tg of_ kp sf rs), (aI g rt_ 25 rt), (aI g to_ 25 (flF rt tf 25)), (aI g sm 25 F), (aM g rw_ 6 (he_ro 6 r1)), (aM g wa 6 (he_ro 6 r2)), (aM g sh_ 120 (he_ro 120 r6)), (aM g ki 4 (he_ro 4 r7)), (aM g of_ 2 (he_ro 2 r9))] ++ he_pl g L ln (va_up Mj (r7 i4) (upd (Mj (r7 i4)) j4 8))) H := hP
                                      have hD : va_D A ([(oX11 m0 tw ta sz_ pl at_ fa fw cs fd rfm rt_ to_ rw_ wa ct rk rb cn br sm as_ go sh_ ir oa ob th ig sp_ ki tg of_ kp sf rs), (aI g rt_ 25 rt), (aI g to_ 25 (flF rt tf 25)), (aI g sm 25 F), (aM g rw_ 6 (he_ro 6 r1)), (aM g wa 6 (he_ro 6 r2)), (aM g sh_ 120 (he_ro 120 r6)), (aM g ki 4 (he_ro 4 r7)), (aM g of_ 2 (he_ro 2 r9))] ++ he_pl g L ln (va_up Mj (r7 i4) (upd (Mj (r7 i4)) j4 8))) := hD
                                      refine lv_iinc (v := nI (j4 + 1)) (lv' := [(2, .int (nI (j4 + 1))), (0, .ref m0), (1, .int (nI i4))]) hx hb dX11_stands0_262 hl (k := 2) rfl (nI_1 j4) (by decide) rfl (fun ls hl => ?_)
                                      refine lv_goto (tgt := 247) hx hb dX11_stands0_265 (by decide) ?_
                                      exact ih247 (j4 + 1) (va_up Mj (r7 i4) (upd (Mj (r7 i4)) j4 8)) (by omega) (by omega) (wk_k (fun q9 h9 => D_r2_r7 q9 i4 (by omega) (by omega)) hwk) (rset_s J_r7 (by omega) hz) _ _ _ hP hD hS (lv_sub hl [1, 2, 0] rfl)
                                exact loop247 ((2 - 0) + 1) 0 Mj (Nat.lt_succ_self _) (Nat.zero_le _) hwk hz _ _ _ hP hD hS (lv_sub hl [1, 2, 0] rfl)
                          exact loop240 ((4 - 0) + 1) 0 Mj (Nat.lt_succ_self _) (Nat.zero_le _) hwk (rset_0 _ _ _ _) _ _ _ hP hD hS (lv_sub hl [1, 0] rfl)
                        · have k_21 : ¬ (120 ≤ i3) := fun h9 => c_7 ((he_cle (a := 120) (b := i3) (by decide) rfl (by omega) (by omega)).mpr h9)
                          refine lv_iconst (v := 0) hx hb dX11_stands0_209 (by decide) ?_
                          refine lv_istore_n (lv' := [(2, .int 0), (0, .ref m0), (1, .int (nI i3))]) hx hb dX11_stands0_210 rfl hl (by decide) rfl (fun ls hl => ?_)
                          have loop211 : ∀ (n9 : Nat) (j3 : Nat) (Mj : Nat → Nat → Int32), 6 - j3 < n9 → (j3 ≤ 6) → (wKp r1 r2 w 0 M Mj) → ∀ (H : Heap) (locs : List Loc) (ls : Array Slot), va_P g.1 vwCl ([(oX11 m0 tw ta sz_ pl at_ fa fw cs fd rfm rt_ to_ rw_ wa ct rk rb cn br sm as_ go sh_ ir oa ob th ig sp_ ki tg of_ kp sf rs), (aI g rt_ 25 rt), (aI g to_ 25 (flF rt tf 25)), (aI g sm 25 F), (aM g rw_ 6 (he_ro 6 r1)), (aM g wa 6 (he_ro 6 r2)), (aM g sh_ 120 (he_ro 120 r6)), (aM g ki 4 (he_ro 4 r7)), (aM g of_ 2 (he_ro 2 r9))] ++ he_pl g L ln Mj) H → va_D A ([(oX11 m0 tw ta sz_ pl at_ fa fw cs fd rfm rt_ to_ rw_ wa ct rk rb cn br sm as_ go sh_ ir oa ob th ig sp_ ki tg of_ kp sf rs), (aI g rt_ 25 rt), (aI g to_ 25 (flF rt tf 25)), (aI g sm 25 F), (aM g rw_ 6 (he_ro 6 r1)), (aM g wa 6 (he_ro 6 r2)), (aM g sh_ 120 (he_ro 120 r6)), (aM g ki 4 (he_ro 4 r7)), (aM g of_ 2 (he_ro 2 r9))] ++ he_pl g L ln Mj) → va_S A s.heap H locs → lv_has ls 3 [(0, .ref m0), (1, .int (nI i3)), (2, .int (nI j3))] → W p l e (he_room 0 0 0 0) s m args below meth c H locs 0 0 Q (F0 m 211 ls []) := by
                            intro n9
                            induction n9 with
                            | zero => intro j3 Mj hm9; exact absurd hm9 (Nat.not_lt_zero _)
                            | succ n9 ih211 =>
                              intro j3 Mj hm9 hj3 hwk H locs ls hP hD hS hl
                              refine lv_iload_n hx hb dX11_stands0_211 rfl (lv_at hl 2 rfl) ?_
                              refine lv_bipush (v := 6) hx hb dX11_stands0_212 (by decide) ?_
                              refine lv_icmp_ge (tgt := 232) hx hb dX11_stands0_214 (by decide) (fun c_22 => ?_) (fun c_22 => ?_)
                              · have k_23 : 6 ≤ j3 := (he_cle (a := 6) (b := j3) (by decide) rfl (by omega) (by omega)).mp c_22
                                refine lv_iinc (v := nI (i3 + 1)) (lv' := [(1, .int (nI (i3 + 1))), (0, .ref m0), (2, .int (nI j3))]) hx hb dX11_stands0_232 hl (k := 1) rfl (nI_1 i3) (by decide) rfl (fun ls hl => ?_)
                                refine lv_goto (tgt := 203) hx hb dX11_stands0_235 (by decide) ?_
                                exact ih203 (i3 + 1) Mj (by omega) (by omega) hwk _ _ _ hP hD hS (lv_sub hl [1, 0] rfl)
                              · have k_24 : ¬ (6 ≤ j3) := fun h9 => c_22 ((he_cle (a := 6) (b := j3) (by decide) rfl (by omega) (by omega)).mpr h9)
                                refine lv_aload_n hx hb dX11_stands0_217 rfl (lv_at hl 0 rfl) ?_
                                refine va_get (v := .ref sh_) (T := TX11) (N := 35) hx hb hts inX11 hown hK hP 0 rfl rfl 22 (by decide) f55 (fun _ h9 => h9) rfl dX11_stands0_218 ?_
                                refine lv_iload_n hx hb dX11_stands0_221 rfl (lv_at hl 1 rfl) ?_
                                refine he_aldm hx hb hK hP 6 rfl (i3) rfl (by first | assumption | decide | omega) (by decide) dX11_stands0_222 ?_
                                refine lv_iload_n hx hb dX11_stands0_223 rfl (lv_at hl 2 rfl) ?_
                                refine lv_iconst (v := 0) hx hb dX11_stands0_224 (by decide) ?_
                                refine he_past hx hb hK hP hD hS (F_r6 i3 (by first | assumption | decide | omega)).1 (j3) rfl (by rw [(F_r6 i3 (by first | assumption | decide | omega)).2.1]; exact (by first | assumption | decide | omega)) (by rw [(F_r6 i3 (by first | assumption | decide | omega)).2.1]; decide) dX11_stands0_225 (fun H locs hP hD hS => ?_)
                                have hP : va_P g.1 vwCl ([(oX11 m0 tw ta sz_ pl at_ fa fw cs fd rfm rt_ to_ rw_ wa ct rk rb cn br sm as_ go sh_ ir oa ob th ig sp_ ki tg of_ kp sf rs), (aI g rt_ 25 rt), (aI g to_ 25 (flF rt tf 25)), (aI g sm 25 F), (aM g rw_ 6 (he_ro 6 r1)), (aM g wa 6 (he_ro 6 r2)), (aM g sh_ 120 (he_ro 120 r6)), (aM g ki 4 (he_ro 4 r7)), (aM g of_ 2 (he_ro 2 r9))] ++ he_pl g L ln (va_up Mj (r6 i3) (upd (Mj (r6 i3)) j3 0))) H := hP
                                have hD : va_D A ([(oX11 m0 tw ta sz_ pl at_ fa fw cs fd rfm rt_ to_ rw_ wa ct rk rb cn br sm as_ go sh_ ir oa ob th ig sp_ ki tg of_ kp sf rs), (aI g rt_ 25 rt), (aI g to_ 25 (flF rt tf 25)), (aI g sm 25 F), (aM g rw_ 6 (he_ro 6 r1)), (aM g wa 6 (he_ro 6 r2)), (aM g sh_ 120 (he_ro 120 r6)), (aM g ki 4 (he_ro 4 r7)), (aM g of_ 2 (he_ro 2 r9))] ++ he_pl g L ln (va_up Mj (r6 i3) (upd (Mj (r6 i3)) j3 0))) := hD
                                refine lv_iinc (v := nI (j3 + 1)) (lv' := [(2, .int (nI (j3 + 1))), (0, .ref m0), (1, .int (nI i3))]) hx hb dX11_stands0_226 hl (k := 2) rfl (nI_1 j3) (by decide) rfl (fun ls hl => ?_)
                                refine lv_goto (tgt := 211) hx hb dX11_stands0_229 (by decide) ?_
                                exact ih211 (j3 + 1) (va_up Mj (r6 i3) (upd (Mj (r6 i3)) j3 0)) (by omega) (by omega) (wk_k (fun q9 h9 => D_r2_r6 q9 i3 (by omega) (by omega)) hwk) _ _ _ hP hD hS (lv_sub hl [1, 2, 0] rfl)
                          exact loop211 ((6 - 0) + 1) 0 Mj (Nat.lt_succ_self _) (Nat.zero_le _) hwk _ _ _ hP hD hS (lv_sub hl [1, 2, 0] rfl)
                    exact loop203 ((120 - 0) + 1) 0 Mj (Nat.lt_succ_self _) (Nat.zero_le _) (by rw [show w = q by omega]; exact hwk) _ _ _ hP hD hS (lv_sub hl [1, 0] rfl)
                  · have k_25 : ¬ (w ≤ q) := fun h9 => c_5 ((he_cle (a := w) (b := q) rfl rfl (by omega) (by omega)).mpr h9)
                    refine lv_iconst (v := 0) hx hb dX11_stands0_149 (by decide) ?_
                    refine lv_istore_n (lv' := [(2, .int 0), (0, .ref m0), (1, .int (nI q))]) hx hb dX11_stands0_150 rfl hl (by decide) rfl (fun ls hl => ?_)
                    have loop151 : ∀ (n9 : Nat) (i2 : Nat) (Mj : Nat → Nat → Int32), 2 - i2 < n9 → (i2 ≤ 2) → (∀ i, i < 6 → Mj (r1 i) = M (r1 i)) → (wKp r1 r2 q i2 M Mj) → ∀ (H : Heap) (locs : List Loc) (ls : Array Slot), va_P g.1 vwCl ([(oX11 m0 tw ta sz_ pl at_ fa fw cs fd rfm rt_ to_ rw_ wa ct rk rb cn br sm as_ go sh_ ir oa ob th ig sp_ ki tg of_ kp sf rs), (aI g rt_ 25 rt), (aI g to_ 25 (flF rt tf 25)), (aI g sm 25 F), (aM g rw_ 6 (he_ro 6 r1)), (aM g wa 6 (he_ro 6 r2)), (aM g sh_ 120 (he_ro 120 r6)), (aM g ki 4 (he_ro 4 r7)), (aM g of_ 2 (he_ro 2 r9))] ++ he_pl g L ln Mj) H → va_D A ([(oX11 m0 tw ta sz_ pl at_ fa fw cs fd rfm rt_ to_ rw_ wa ct rk rb cn br sm as_ go sh_ ir oa ob th ig sp_ ki tg of_ kp sf rs), (aI g rt_ 25 rt), (aI g to_ 25 (flF rt tf 25)), (aI g sm 25 F), (aM g rw_ 6 (he_ro 6 r1)), (aM g wa 6 (he_ro 6 r2)), (aM g sh_ 120 (he_ro 120 r6)), (aM g ki 4 (he_ro 4 r7)), (aM g of_ 2 (he_ro 2 r9))] ++ he_pl g L ln Mj) → va_S A s.heap H locs → lv_has ls 3 [(0, .ref m0), (1, .int (nI q)), (2, .int (nI i2))] → W p l e (he_room 0 0 0 0) s m args below meth c H locs 0 0 Q (F0 m 151 ls []) := by
                      intro n9
                      induction n9 with
                      | zero => intro i2 Mj hm9; exact absurd hm9 (Nat.not_lt_zero _)
                      | succ n9 ih151 =>
                        intro i2 Mj hm9 hi2 hk1 hwk H locs ls hP hD hS hl
                        refine lv_iload_n hx hb dX11_stands0_151 rfl (lv_at hl 2 rfl) ?_
                        refine lv_iconst (v := 2) hx hb dX11_stands0_152 (by decide) ?_
                        refine lv_icmp_ge (tgt := 178) hx hb dX11_stands0_153 (by decide) (fun c_26 => ?_) (fun c_26 => ?_)
                        · have k_27 : 2 ≤ i2 := (he_cle (a := 2) (b := i2) (by decide) rfl (by omega) (by omega)).mp c_26
                          refine lv_aload_n hx hb dX11_stands0_178 rfl (lv_at hl 0 rfl) ?_
                          refine va_get (v := .ref sm) (T := TX11) (N := 35) hx hb hts inX11 hown hK hP 0 rfl rfl 19 (by decide) f46 (fun _ h9 => h9) rfl dX11_stands0_179 ?_
                          refine lv_bipush (v := 12) hx hb dX11_stands0_182 (by decide) ?_
                          refine lv_iload_n hx hb dX11_stands0_184 rfl (lv_at hl 1 rfl) ?_
                          refine lv_iadd hx hb dX11_stands0_185 ?_
                          refine he_top (nI (12 + q)) (nI_add 12 q) ?_
                          refine lv_aload_n hx hb dX11_stands0_186 rfl (lv_at hl 0 rfl) ?_
                          refine va_get (v := .ref wa) (T := TX11) (N := 35) hx hb hts inX11 hown hK hP 0 rfl rfl 13 (by decide) f31 (fun _ h9 => h9) rfl dX11_stands0_187 ?_
                          refine lv_iload_n hx hb dX11_stands0_190 rfl (lv_at hl 1 rfl) ?_
                          refine he_aldm hx hb hK hP 5 rfl (q) rfl (by first | assumption | decide | omega) (by decide) dX11_stands0_191 ?_
                          refine lv_iconst (v := 0) hx hb dX11_stands0_192 (by decide) ?_
                          refine he_pald hx hb hK hP (F_r2 q (by first | assumption | decide | omega)).1 (0) (by decide) (by rw [(F_r2 q (by first | assumption | decide | omega)).2.1]; exact (by decide)) (by rw [(F_r2 q (by first | assumption | decide | omega)).2.1]; decide) (Mj (r2 q) 0) rfl dX11_stands0_193 ?_
                          refine he_iast hx hb hK hP hD hS 3 rfl (12 + q) rfl (by first | assumption | decide | omega) (by first | decide | assumption) dX11_stands0_194 (fun H locs hP hD hS => ?_)
                          have hP : va_P g.1 vwCl ([(oX11 m0 tw ta sz_ pl at_ fa fw cs fd rfm rt_ to_ rw_ wa ct rk rb cn br sm as_ go sh_ ir oa ob th ig sp_ ki tg of_ kp sf rs), (aI g rt_ 25 rt), (aI g to_ 25 (flF rt tf 25)), (aI g sm 25 (upd F (12 + q) (Mj (r2 q) 0))), (aM g rw_ 6 (he_ro 6 r1)), (aM g wa 6 (he_ro 6 r2)), (aM g sh_ 120 (he_ro 120 r6)), (aM g ki 4 (he_ro 4 r7)), (aM g of_ 2 (he_ro 2 r9))] ++ he_pl g L ln Mj) H := hP
                          have hD : va_D A ([(oX11 m0 tw ta sz_ pl at_ fa fw cs fd rfm rt_ to_ rw_ wa ct rk rb cn br sm as_ go sh_ ir oa ob th ig sp_ ki tg of_ kp sf rs), (aI g rt_ 25 rt), (aI g to_ 25 (flF rt tf 25)), (aI g sm 25 (upd F (12 + q) (Mj (r2 q) 0))), (aM g rw_ 6 (he_ro 6 r1)), (aM g wa 6 (he_ro 6 r2)), (aM g sh_ 120 (he_ro 120 r6)), (aM g ki 4 (he_ro 4 r7)), (aM g of_ 2 (he_ro 2 r9))] ++ he_pl g L ln Mj) := hD
                          refine lv_iinc (v := nI (q + 1)) (lv' := [(1, .int (nI (q + 1))), (0, .ref m0), (2, .int (nI i2))]) hx hb dX11_stands0_195 hl (k := 1) rfl (nI_1 q) (by decide) rfl (fun ls hl => ?_)
                          refine lv_goto (tgt := 139) hx hb dX11_stands0_198 (by decide) ?_
                          exact ih139 (q + 1) (upd F (12 + q) (Mj (r2 q) 0)) Mj (by omega) (by omega) (by rw [upd_n (by omega)]; exact hs10) (by rw [upd_n (by omega)]; exact hs24) (lw_in hF (hwk.2 0 (by omega))) hk1 (wk_n (by omega) hwk) _ _ _ hP hD hS (lv_sub hl [1, 0] rfl)
                        · have k_28 : ¬ (2 ≤ i2) := fun h9 => c_26 ((he_cle (a := 2) (b := i2) (by decide) rfl (by omega) (by omega)).mpr h9)
                          refine lv_aload_n hx hb dX11_stands0_156 rfl (lv_at hl 0 rfl) ?_
                          refine va_get (v := .ref wa) (T := TX11) (N := 35) hx hb hts inX11 hown hK hP 0 rfl rfl 13 (by decide) f31 (fun _ h9 => h9) rfl dX11_stands0_157 ?_
                          refine lv_iload_n hx hb dX11_stands0_160 rfl (lv_at hl 1 rfl) ?_
                          refine he_aldm hx hb hK hP 5 rfl (q) rfl (by first | assumption | decide | omega) (by decide) dX11_stands0_161 ?_
                          refine lv_iload_n hx hb dX11_stands0_162 rfl (lv_at hl 2 rfl) ?_
                          refine lv_aload_n hx hb dX11_stands0_163 rfl (lv_at hl 0 rfl) ?_
                          refine va_get (v := .ref rw_) (T := TX11) (N := 35) hx hb hts inX11 hown hK hP 0 rfl rfl 12 (by decide) f28 (fun _ h9 => h9) rfl dX11_stands0_164 ?_
                          refine lv_iload_n hx hb dX11_stands0_167 rfl (lv_at hl 1 rfl) ?_
                          refine he_aldm hx hb hK hP 4 rfl (q) rfl (by first | assumption | decide | omega) (by decide) dX11_stands0_168 ?_
                          refine lv_iload_n hx hb dX11_stands0_169 rfl (lv_at hl 2 rfl) ?_
                          refine he_pald hx hb hK hP (F_r1 q (by first | assumption | decide | omega)).1 (i2) rfl (by rw [(F_r1 q (by first | assumption | decide | omega)).2.1]; exact (by first | assumption | decide | omega)) (by rw [(F_r1 q (by first | assumption | decide | omega)).2.1]; decide) (Mj (r1 q) i2) rfl dX11_stands0_170 ?_
                          refine he_past hx hb hK hP hD hS (F_r2 q (by first | assumption | decide | omega)).1 (i2) rfl (by rw [(F_r2 q (by first | assumption | decide | omega)).2.1]; exact (by first | assumption | decide | omega)) (by rw [(F_r2 q (by first | assumption | decide | omega)).2.1]; decide) dX11_stands0_171 (fun H locs hP hD hS => ?_)
                          have hP : va_P g.1 vwCl ([(oX11 m0 tw ta sz_ pl at_ fa fw cs fd rfm rt_ to_ rw_ wa ct rk rb cn br sm as_ go sh_ ir oa ob th ig sp_ ki tg of_ kp sf rs), (aI g rt_ 25 rt), (aI g to_ 25 (flF rt tf 25)), (aI g sm 25 F), (aM g rw_ 6 (he_ro 6 r1)), (aM g wa 6 (he_ro 6 r2)), (aM g sh_ 120 (he_ro 120 r6)), (aM g ki 4 (he_ro 4 r7)), (aM g of_ 2 (he_ro 2 r9))] ++ he_pl g L ln (va_up Mj (r2 q) (upd (Mj (r2 q)) i2 (Mj (r1 q) i2)))) H := hP
                          have hD : va_D A ([(oX11 m0 tw ta sz_ pl at_ fa fw cs fd rfm rt_ to_ rw_ wa ct rk rb cn br sm as_ go sh_ ir oa ob th ig sp_ ki tg of_ kp sf rs), (aI g rt_ 25 rt), (aI g to_ 25 (flF rt tf 25)), (aI g sm 25 F), (aM g rw_ 6 (he_ro 6 r1)), (aM g wa 6 (he_ro 6 r2)), (aM g sh_ 120 (he_ro 120 r6)), (aM g ki 4 (he_ro 4 r7)), (aM g of_ 2 (he_ro 2 r9))] ++ he_pl g L ln (va_up Mj (r2 q) (upd (Mj (r2 q)) i2 (Mj (r1 q) i2)))) := hD
                          refine lv_iinc (v := nI (i2 + 1)) (lv' := [(2, .int (nI (i2 + 1))), (0, .ref m0), (1, .int (nI q))]) hx hb dX11_stands0_172 hl (k := 2) rfl (nI_1 i2) (by decide) rfl (fun ls hl => ?_)
                          refine lv_goto (tgt := 151) hx hb dX11_stands0_175 (by decide) ?_
                          exact ih151 (i2 + 1) (va_up Mj (r2 q) (upd (Mj (r2 q)) i2 (Mj (r1 q) i2))) (by omega) (by omega) (r1_k (fun q9 h9 => D_r1_r2 q9 q h9 (by omega)) hk1) (wk_s J_r2 (by omega) hk1 hwk) _ _ _ hP hD hS (lv_sub hl [1, 2, 0] rfl)
                    exact loop151 ((2 - 0) + 1) 0 Mj (Nat.lt_succ_self _) (Nat.zero_le _) hk1 hwk _ _ _ hP hD hS (lv_sub hl [1, 2, 0] rfl)
              exact loop139 ((w - 0) + 1) 0 (sbF rt sf0) M (Nat.lt_succ_self _) (Nat.zero_le _) (sb10 _ _) (sb24 _ _) (lwF_0 _ _).symm (fun _ _ => rfl) wk_0 _ _ _ hP hD hS (lv_sub hl [1, 0] rfl)
            · have k_29 : ¬ (25 ≤ j2) := fun h9 => c_3 ((he_cle (a := 25) (b := j2) (by decide) rfl (by omega) (by omega)).mpr h9)
              refine lv_aload_n hx hb dX11_stands0_34 rfl (lv_at hl 0 rfl) ?_
              refine va_get (v := .ref sm) (T := TX11) (N := 35) hx hb hts inX11 hown hK hP 0 rfl rfl 19 (by decide) f46 (fun _ h9 => h9) rfl dX11_stands0_35 ?_
              refine lv_iload_n hx hb dX11_stands0_38 rfl (lv_at hl 1 rfl) ?_
              refine lv_iconst (v := 0) hx hb dX11_stands0_39 (by decide) ?_
              refine he_iast hx hb hK hP hD hS 3 rfl (j2) rfl (by first | assumption | decide | omega) (by first | decide | assumption) dX11_stands0_40 (fun H locs hP hD hS => ?_)
              have hP : va_P g.1 vwCl ([(oX11 m0 tw ta sz_ pl at_ fa fw cs fd rfm rt_ to_ rw_ wa ct rk rb cn br sm as_ go sh_ ir oa ob th ig sp_ ki tg of_ kp sf rs), (aI g rt_ 25 rt), (aI g to_ 25 (flF rt tf 25)), (aI g sm 25 (upd (flF (fun _ => 0) sf0 j2) j2 0)), (aM g rw_ 6 (he_ro 6 r1)), (aM g wa 6 (he_ro 6 r2)), (aM g sh_ 120 (he_ro 120 r6)), (aM g ki 4 (he_ro 4 r7)), (aM g of_ 2 (he_ro 2 r9))] ++ he_pl g L ln M) H := hP
              have hD : va_D A ([(oX11 m0 tw ta sz_ pl at_ fa fw cs fd rfm rt_ to_ rw_ wa ct rk rb cn br sm as_ go sh_ ir oa ob th ig sp_ ki tg of_ kp sf rs), (aI g rt_ 25 rt), (aI g to_ 25 (flF rt tf 25)), (aI g sm 25 (upd (flF (fun _ => 0) sf0 j2) j2 0)), (aM g rw_ 6 (he_ro 6 r1)), (aM g wa 6 (he_ro 6 r2)), (aM g sh_ 120 (he_ro 120 r6)), (aM g ki 4 (he_ro 4 r7)), (aM g of_ 2 (he_ro 2 r9))] ++ he_pl g L ln M) := hD
              refine lv_iinc (v := nI (j2 + 1)) (lv' := [(1, .int (nI (j2 + 1))), (0, .ref m0)]) hx hb dX11_stands0_41 hl (k := 1) rfl (nI_1 j2) (by decide) rfl (fun ls hl => ?_)
              refine lv_goto (tgt := 28) hx hb dX11_stands0_44 (by decide) ?_
              have hP : va_P g.1 vwCl ([(oX11 m0 tw ta sz_ pl at_ fa fw cs fd rfm rt_ to_ rw_ wa ct rk rb cn br sm as_ go sh_ ir oa ob th ig sp_ ki tg of_ kp sf rs), (aI g rt_ 25 rt), (aI g to_ 25 (flF rt tf 25)), (aI g sm 25 (flF (fun _ => 0) sf0 (j2 + 1))), (aM g rw_ 6 (he_ro 6 r1)), (aM g wa 6 (he_ro 6 r2)), (aM g sh_ 120 (he_ro 120 r6)), (aM g ki 4 (he_ro 4 r7)), (aM g of_ 2 (he_ro 2 r9))] ++ he_pl g L ln M) H := by rw [← flF_s (fun _ => 0) sf0 j2]; exact hP
              have hD : va_D A ([(oX11 m0 tw ta sz_ pl at_ fa fw cs fd rfm rt_ to_ rw_ wa ct rk rb cn br sm as_ go sh_ ir oa ob th ig sp_ ki tg of_ kp sf rs), (aI g rt_ 25 rt), (aI g to_ 25 (flF rt tf 25)), (aI g sm 25 (flF (fun _ => 0) sf0 (j2 + 1))), (aM g rw_ 6 (he_ro 6 r1)), (aM g wa 6 (he_ro 6 r2)), (aM g sh_ 120 (he_ro 120 r6)), (aM g ki 4 (he_ro 4 r7)), (aM g of_ 2 (he_ro 2 r9))] ++ he_pl g L ln M) := by rw [← flF_s (fun _ => 0) sf0 j2]; exact hD
              exact ih28 (j2 + 1) (by omega) (by omega) _ _ _ hP hD hS (lv_sub hl [1, 0] rfl)
        have hP : va_P g.1 vwCl ([(oX11 m0 tw ta sz_ pl at_ fa fw cs fd rfm rt_ to_ rw_ wa ct rk rb cn br sm as_ go sh_ ir oa ob th ig sp_ ki tg of_ kp sf rs), (aI g rt_ 25 rt), (aI g to_ 25 (flF rt tf 25)), (aI g sm 25 (flF (fun _ => 0) sf0 0)), (aM g rw_ 6 (he_ro 6 r1)), (aM g wa 6 (he_ro 6 r2)), (aM g sh_ 120 (he_ro 120 r6)), (aM g ki 4 (he_ro 4 r7)), (aM g of_ 2 (he_ro 2 r9))] ++ he_pl g L ln M) H := by rw [flF_0]; exact hP
        have hD : va_D A ([(oX11 m0 tw ta sz_ pl at_ fa fw cs fd rfm rt_ to_ rw_ wa ct rk rb cn br sm as_ go sh_ ir oa ob th ig sp_ ki tg of_ kp sf rs), (aI g rt_ 25 rt), (aI g to_ 25 (flF rt tf 25)), (aI g sm 25 (flF (fun _ => 0) sf0 0)), (aM g rw_ 6 (he_ro 6 r1)), (aM g wa 6 (he_ro 6 r2)), (aM g sh_ 120 (he_ro 120 r6)), (aM g ki 4 (he_ro 4 r7)), (aM g of_ 2 (he_ro 2 r9))] ++ he_pl g L ln M) := by rw [flF_0]; exact hD
        exact loop28 ((25 - 0) + 1) 0 (Nat.lt_succ_self _) (Nat.zero_le _) _ _ _ hP hD hS (lv_sub hl [1, 0] rfl)
      · have k_30 : ¬ (25 ≤ j) := fun h9 => c_1 ((he_cle (a := 25) (b := j) (by decide) rfl (by omega) (by omega)).mpr h9)
        refine lv_aload_n hx hb dX11_stands0_8 rfl (lv_at hl 0 rfl) ?_
        refine va_get (v := .ref to_) (T := TX11) (N := 35) hx hb hts inX11 hown hK hP 0 rfl rfl 11 (by decide) f23 (fun _ h9 => h9) rfl dX11_stands0_9 ?_
        refine lv_iload_n hx hb dX11_stands0_12 rfl (lv_at hl 1 rfl) ?_
        refine lv_aload_n hx hb dX11_stands0_13 rfl (lv_at hl 0 rfl) ?_
        refine va_get (v := .ref rt_) (T := TX11) (N := 35) hx hb hts inX11 hown hK hP 0 rfl rfl 10 (by decide) f20 (fun _ h9 => h9) rfl dX11_stands0_14 ?_
        refine lv_iload_n hx hb dX11_stands0_17 rfl (lv_at hl 1 rfl) ?_
        refine he_iald hx hb hK hP 1 rfl (j) rfl (by first | assumption | decide | omega) (by first | decide | assumption) (rt j) rfl dX11_stands0_18 ?_
        refine he_iast hx hb hK hP hD hS 2 rfl (j) rfl (by first | assumption | decide | omega) (by first | decide | assumption) dX11_stands0_19 (fun H locs hP hD hS => ?_)
        have hP : va_P g.1 vwCl ([(oX11 m0 tw ta sz_ pl at_ fa fw cs fd rfm rt_ to_ rw_ wa ct rk rb cn br sm as_ go sh_ ir oa ob th ig sp_ ki tg of_ kp sf rs), (aI g rt_ 25 rt), (aI g to_ 25 (upd (flF rt tf j) j (rt j))), (aI g sm 25 sf0), (aM g rw_ 6 (he_ro 6 r1)), (aM g wa 6 (he_ro 6 r2)), (aM g sh_ 120 (he_ro 120 r6)), (aM g ki 4 (he_ro 4 r7)), (aM g of_ 2 (he_ro 2 r9))] ++ he_pl g L ln M) H := hP
        have hD : va_D A ([(oX11 m0 tw ta sz_ pl at_ fa fw cs fd rfm rt_ to_ rw_ wa ct rk rb cn br sm as_ go sh_ ir oa ob th ig sp_ ki tg of_ kp sf rs), (aI g rt_ 25 rt), (aI g to_ 25 (upd (flF rt tf j) j (rt j))), (aI g sm 25 sf0), (aM g rw_ 6 (he_ro 6 r1)), (aM g wa 6 (he_ro 6 r2)), (aM g sh_ 120 (he_ro 120 r6)), (aM g ki 4 (he_ro 4 r7)), (aM g of_ 2 (he_ro 2 r9))] ++ he_pl g L ln M) := hD
        refine lv_iinc (v := nI (j + 1)) (lv' := [(1, .int (nI (j + 1))), (0, .ref m0)]) hx hb dX11_stands0_20 hl (k := 1) rfl (nI_1 j) (by decide) rfl (fun ls hl => ?_)
        refine lv_goto (tgt := 2) hx hb dX11_stands0_23 (by decide) ?_
        have hP : va_P g.1 vwCl ([(oX11 m0 tw ta sz_ pl at_ fa fw cs fd rfm rt_ to_ rw_ wa ct rk rb cn br sm as_ go sh_ ir oa ob th ig sp_ ki tg of_ kp sf rs), (aI g rt_ 25 rt), (aI g to_ 25 (flF rt tf (j + 1))), (aI g sm 25 sf0), (aM g rw_ 6 (he_ro 6 r1)), (aM g wa 6 (he_ro 6 r2)), (aM g sh_ 120 (he_ro 120 r6)), (aM g ki 4 (he_ro 4 r7)), (aM g of_ 2 (he_ro 2 r9))] ++ he_pl g L ln M) H := by rw [← flF_s]; exact hP
        have hD : va_D A ([(oX11 m0 tw ta sz_ pl at_ fa fw cs fd rfm rt_ to_ rw_ wa ct rk rb cn br sm as_ go sh_ ir oa ob th ig sp_ ki tg of_ kp sf rs), (aI g rt_ 25 rt), (aI g to_ 25 (flF rt tf (j + 1))), (aI g sm 25 sf0), (aM g rw_ 6 (he_ro 6 r1)), (aM g wa 6 (he_ro 6 r2)), (aM g sh_ 120 (he_ro 120 r6)), (aM g ki 4 (he_ro 4 r7)), (aM g of_ 2 (he_ro 2 r9))] ++ he_pl g L ln M) := by rw [← flF_s]; exact hD
        exact ih2 (j + 1) (by omega) (by omega) _ _ _ hP hD hS (lv_sub hl [1, 0] rfl)
  have hP : va_P g.1 vwCl ([(oX11 m0 tw ta sz_ pl at_ fa fw cs fd rfm rt_ to_ rw_ wa ct rk rb cn br sm as_ go sh_ ir oa ob th ig sp_ ki tg of_ kp sf rs), (aI g rt_ 25 rt), (aI g to_ 25 (flF rt tf 0)), (aI g sm 25 sf0), (aM g rw_ 6 (he_ro 6 r1)), (aM g wa 6 (he_ro 6 r2)), (aM g sh_ 120 (he_ro 120 r6)), (aM g ki 4 (he_ro 4 r7)), (aM g of_ 2 (he_ro 2 r9))] ++ he_pl g L ln M) H := by rw [flF_0]; exact hP
  have hD : va_D A ([(oX11 m0 tw ta sz_ pl at_ fa fw cs fd rfm rt_ to_ rw_ wa ct rk rb cn br sm as_ go sh_ ir oa ob th ig sp_ ki tg of_ kp sf rs), (aI g rt_ 25 rt), (aI g to_ 25 (flF rt tf 0)), (aI g sm 25 sf0), (aM g rw_ 6 (he_ro 6 r1)), (aM g wa 6 (he_ro 6 r2)), (aM g sh_ 120 (he_ro 120 r6)), (aM g ki 4 (he_ro 4 r7)), (aM g of_ 2 (he_ro 2 r9))] ++ he_pl g L ln M) := by rw [flF_0]; exact hD
  exact loop2 ((25 - 0) + 1) 0 (Nat.lt_succ_self _) (Nat.zero_le _) _ _ _ hP hD hS (lv_sub hl [1, 0] rfl)
set_option maxHeartbeats 4000000 in
set_option maxRecDepth 100000 in
theorem r_X11_siege (l : Launch) (g : he_G) (m0 : Nat) (fd : Nat) (rfm : Nat) (rt_ : Nat) (to_ : Nat) (rw_ : Nat) (wa : Nat) (rk : Nat) (rb : Nat) (cn : Nat) (br : Nat) (sm : Nat) (as_ : Nat) (go : Nat) (sh_ : Nat) (ki : Nat) (tg : Nat) (of_ : Nat) (kp : Nat) (rs : Nat) (sz_ : Int32) (pl : Int32) (at_ : Int32) (fa : Int32) (fw : Int32) (cs : Int32) (ct : Int32) (ir : Int32) (oa : Int32) (ob : Int32) (th : Int32) (ig : Int32) (sp_ : Int32) (sf : Int32) (ta : Nat) (tw : Int32) (n : Nat) (fb : Nat → Int32) (f0 : Nat → Int32) (tf : Nat → Int32) (sf0 : Nat → Int32) (L : List Nat) (ln : Nat → Nat) (M : Nat → Nat → Int32) (r1 : Nat → Nat) (r2 : Nat → Nat) (r6 : Nat → Nat) (r7 : Nat → Nat) (r9 : Nat → Nat) (T : Nat → Nat) (hta : ta ≤ 500) (hnt : n ≤ ta) (hF : ∀ j, j < n → T j < 256 ∧ fb j = nI (T j)) (F_r1 : ∀ i, i < 6 → r1 i ∈ L ∧ ln (r1 i) = 2 ∧ True) (F_r2 : ∀ i, i < 6 → r2 i ∈ L ∧ ln (r2 i) = 2 ∧ True) (F_r6 : ∀ i, i < 120 → r6 i ∈ L ∧ ln (r6 i) = 6 ∧ True) (F_r7 : ∀ i, i < 4 → r7 i ∈ L ∧ ln (r7 i) = 2 ∧ True) (F_r9 : ∀ i, i < 2 → r9 i ∈ L ∧ ln (r9 i) = 12 ∧ True) (J_r1 : ∀ a b, a < 6 → b < 6 → r1 a = r1 b → a = b) (J_r2 : ∀ a b, a < 6 → b < 6 → r2 a = r2 b → a = b) (J_r7 : ∀ a b, a < 4 → b < 4 → r7 a = r7 b → a = b) (J_r9 : ∀ a b, a < 2 → b < 2 → r9 a = r9 b → a = b) (D_r1_r2 : ∀ i j, i < 6 → j < 6 → r1 i ≠ r2 j) (D_r2_r6 : ∀ i j, i < 6 → j < 120 → r2 i ≠ r6 j) (D_r2_r7 : ∀ i j, i < 6 → j < 4 → r2 i ≠ r7 j) (D_r2_r9 : ∀ i j, i < 6 → j < 2 → r2 i ≠ r9 j) (D_r7_r9 : ∀ i j, i < 4 → j < 2 → r7 i ≠ r9 j) : he_I l yX11_siege wsX11_siege 6 131 1 15 g [.ref m0, .int (nI n)] ([(oX11 m0 tw (nI ta) sz_ pl at_ fa fw cs fd rfm rt_ to_ rw_ wa ct rk rb cn br sm as_ go sh_ ir oa ob th ig sp_ ki tg of_ kp sf rs), (aI g fd 500 fb), (aI g rt_ 25 f0), (aI g to_ 25 tf), (aI g sm 25 sf0), (aM g rw_ 6 (he_ro 6 r1)), (aM g wa 6 (he_ro 6 r2)), (aM g sh_ 120 (he_ro 120 r6)), (aM g ki 4 (he_ro 4 r7)), (aM g of_ 2 (he_ro 2 r9))] ++ he_pl g L ln M) (fun (r : Int32) (u : Int32 × Int32 × Int32 × Int32 × Int32 × Nat × Int32 × Int32 × Int32 × Nat × (Nat → Int32) × (Nat → Int32) × (Nat → Int32) × (Nat → Nat → Int32)) => u.2.2.2.2.2.2.2.2.2.1 ≤ 6 ∧ u.2.2.2.2.2.1 ≤ n ∧ ((u.1 = ct ∧ u.2.1 = oa ∧ u.2.2.1 = ob ∧ u.2.2.2.1 = th ∧ u.2.2.2.2.1 = ig ∧ u.2.2.2.2.2.2.2.2.2.2.2.1 = tf ∧ u.2.2.2.2.2.2.2.2.2.2.2.2.1 = sf0 ∧ mEx r1 6 M u.2.2.2.2.2.2.2.2.2.2.2.2.2 ∧ ¬ u.2.2.2.2.2.2.1 = 0 ∧ r = u.2.2.2.2.2.2.1 - 10) ∨ (u.1 = 0 ∧ u.2.1 = 1 ∧ u.2.2.1 = 1 ∧ u.2.2.2.1 = 0 ∧ u.2.2.2.2.1 = 0 ∧ u.2.2.2.2.2.2.2.2.2.2.2.1 0 = nI u.2.2.2.2.2.2.2.2.2.1 ∧ u.2.2.2.2.2.2.2.2.2.2.2.2.1 10 = -1 ∧ u.2.2.2.2.2.2.2.2.2.2.2.2.1 24 = 0 ∧ rNew r7 r9 u.2.2.2.2.2.2.2.2.2.2.2.2.2 ∧ u.2.2.2.2.2.2.1 = 0 ∧ r = nI u.2.2.2.2.2.2.2.2.2.1)) ∧ u.2.2.2.2.2.2.1 = faC (txP T n wl6 bd6 fl6 61 0 0 0).1 ∧ u.2.2.2.2.2.2.2.1 = faP (txP T n wl6 bd6 fl6 61 0 0 0).1 ∧ (u.2.2.2.2.2.2.1 = 0 → ((txP T n wl6 bd6 fl6 61 0 0 0).1 = none ∧ u.2.2.2.2.2.2.2.2.2.1 = fdW (txP T n wl6 bd6 fl6 61 0 0 0).2 0)) ∧ (u.2.2.2.2.2.2.1 = 0 → ((∀ i, 0 < i → i < 25 → u.2.2.2.2.2.2.2.2.2.2.2.1 i = mtF (txP T n wl6 bd6 fl6 61 0 0 0).2 0 tnA i) ∧ (∀ i, i < u.2.2.2.2.2.2.2.2.2.1 → u.2.2.2.2.2.2.2.2.2.2.2.2.2 (r2 i) 0 = fdT (txP T n wl6 bd6 fl6 61 0 0 0).2 0 (fun _ => 0) i ∧ u.2.2.2.2.2.2.2.2.2.2.2.2.2 (r2 i) 1 = fdM (txP T n wl6 bd6 fl6 61 0 0 0).2 0 (fun _ => 0) i) ∧ ∀ i, i < 24 → u.2.2.2.2.2.2.2.2.2.2.2.2.1 i = bgA u.2.2.2.2.2.2.2.2.2.1 (mtF (txP T n wl6 bd6 fl6 61 0 0 0).2 0 tnA) (fdT (txP T n wl6 bd6 fl6 61 0 0 0).2 0 (fun _ => 0)) i))) (fun (u : Int32 × Int32 × Int32 × Int32 × Int32 × Nat × Int32 × Int32 × Int32 × Nat × (Nat → Int32) × (Nat → Int32) × (Nat → Int32) × (Nat → Nat → Int32)) => [(oX11 m0 0 0 (nI n) u.2.2.2.2.2.2.2.1 (nI u.2.2.2.2.2.1) u.2.2.2.2.2.2.1 u.2.2.2.2.2.2.2.1 u.2.2.2.2.2.2.2.2.1 fd rfm rt_ to_ rw_ wa u.1 rk rb cn br sm as_ go sh_ ir u.2.1 u.2.2.1 u.2.2.2.1 u.2.2.2.2.1 sp_ ki tg of_ kp sf rs), (aI g fd 500 fb), (aI g rt_ 25 u.2.2.2.2.2.2.2.2.2.2.1), (aI g to_ 25 u.2.2.2.2.2.2.2.2.2.2.2.1), (aI g sm 25 u.2.2.2.2.2.2.2.2.2.2.2.2.1), (aM g rw_ 6 (he_ro 6 r1)), (aM g wa 6 (he_ro 6 r2)), (aM g sh_ 120 (he_ro 120 r6)), (aM g ki 4 (he_ro 4 r7)), (aM g of_ 2 (he_ro 2 r9))] ++ he_pl g L ln u.2.2.2.2.2.2.2.2.2.2.2.2.2) := by
  refine he_begin (l := l) (g := g) (y := yX11_siege) (wl := wsX11_siege) (fr := 6) (lo := 131) (mc := 1) (ms := 15) (av := [.ref m0, .int (nI n)]) (ws := ([(oX11 m0 tw (nI ta) sz_ pl at_ fa fw cs fd rfm rt_ to_ rw_ wa ct rk rb cn br sm as_ go sh_ ir oa ob th ig sp_ ki tg of_ kp sf rs), (aI g fd 500 fb), (aI g rt_ 25 f0), (aI g to_ 25 tf), (aI g sm 25 sf0), (aM g rw_ 6 (he_ro 6 r1)), (aM g wa 6 (he_ro 6 r2)), (aM g sh_ 120 (he_ro 120 r6)), (aM g ki 4 (he_ro 4 r7)), (aM g of_ 2 (he_ro 2 r9))] ++ he_pl g L ln M)) (cc := cX11_siege) (maxL := 2) (ret := (some .int)) (fun A => va_Qi (fun (r : Int32) (u : Int32 × Int32 × Int32 × Int32 × Int32 × Nat × Int32 × Int32 × Int32 × Nat × (Nat → Int32) × (Nat → Int32) × (Nat → Int32) × (Nat → Nat → Int32)) => u.2.2.2.2.2.2.2.2.2.1 ≤ 6 ∧ u.2.2.2.2.2.1 ≤ n ∧ ((u.1 = ct ∧ u.2.1 = oa ∧ u.2.2.1 = ob ∧ u.2.2.2.1 = th ∧ u.2.2.2.2.1 = ig ∧ u.2.2.2.2.2.2.2.2.2.2.2.1 = tf ∧ u.2.2.2.2.2.2.2.2.2.2.2.2.1 = sf0 ∧ mEx r1 6 M u.2.2.2.2.2.2.2.2.2.2.2.2.2 ∧ ¬ u.2.2.2.2.2.2.1 = 0 ∧ r = u.2.2.2.2.2.2.1 - 10) ∨ (u.1 = 0 ∧ u.2.1 = 1 ∧ u.2.2.1 = 1 ∧ u.2.2.2.1 = 0 ∧ u.2.2.2.2.1 = 0 ∧ u.2.2.2.2.2.2.2.2.2.2.2.1 0 = nI u.2.2.2.2.2.2.2.2.2.1 ∧ u.2.2.2.2.2.2.2.2.2.2.2.2.1 10 = -1 ∧ u.2.2.2.2.2.2.2.2.2.2.2.2.1 24 = 0 ∧ rNew r7 r9 u.2.2.2.2.2.2.2.2.2.2.2.2.2 ∧ u.2.2.2.2.2.2.1 = 0 ∧ r = nI u.2.2.2.2.2.2.2.2.2.1)) ∧ u.2.2.2.2.2.2.1 = faC (txP T n wl6 bd6 fl6 61 0 0 0).1 ∧ u.2.2.2.2.2.2.2.1 = faP (txP T n wl6 bd6 fl6 61 0 0 0).1 ∧ (u.2.2.2.2.2.2.1 = 0 → ((txP T n wl6 bd6 fl6 61 0 0 0).1 = none ∧ u.2.2.2.2.2.2.2.2.2.1 = fdW (txP T n wl6 bd6 fl6 61 0 0 0).2 0)) ∧ (u.2.2.2.2.2.2.1 = 0 → ((∀ i, 0 < i → i < 25 → u.2.2.2.2.2.2.2.2.2.2.2.1 i = mtF (txP T n wl6 bd6 fl6 61 0 0 0).2 0 tnA i) ∧ (∀ i, i < u.2.2.2.2.2.2.2.2.2.1 → u.2.2.2.2.2.2.2.2.2.2.2.2.2 (r2 i) 0 = fdT (txP T n wl6 bd6 fl6 61 0 0 0).2 0 (fun _ => 0) i ∧ u.2.2.2.2.2.2.2.2.2.2.2.2.2 (r2 i) 1 = fdM (txP T n wl6 bd6 fl6 61 0 0 0).2 0 (fun _ => 0) i) ∧ ∀ i, i < 24 → u.2.2.2.2.2.2.2.2.2.2.2.2.1 i = bgA u.2.2.2.2.2.2.2.2.2.1 (mtF (txP T n wl6 bd6 fl6 61 0 0 0).2 0 tnA) (fdT (txP T n wl6 bd6 fl6 61 0 0 0).2 0 (fun _ => 0)) i))) (fun u t => he_post g A ((fun (u : Int32 × Int32 × Int32 × Int32 × Int32 × Nat × Int32 × Int32 × Int32 × Nat × (Nat → Int32) × (Nat → Int32) × (Nat → Int32) × (Nat → Nat → Int32)) => [(oX11 m0 0 0 (nI n) u.2.2.2.2.2.2.2.1 (nI u.2.2.2.2.2.1) u.2.2.2.2.2.2.1 u.2.2.2.2.2.2.2.1 u.2.2.2.2.2.2.2.2.1 fd rfm rt_ to_ rw_ wa u.1 rk rb cn br sm as_ go sh_ ir u.2.1 u.2.2.1 u.2.2.2.1 u.2.2.2.2.1 sp_ ki tg of_ kp sf rs), (aI g fd 500 fb), (aI g rt_ 25 u.2.2.2.2.2.2.2.2.2.2.1), (aI g to_ 25 u.2.2.2.2.2.2.2.2.2.2.2.1), (aI g sm 25 u.2.2.2.2.2.2.2.2.2.2.2.2.1), (aM g rw_ 6 (he_ro 6 r1)), (aM g wa 6 (he_ro 6 r2)), (aM g sh_ 120 (he_ro 120 r6)), (aM g ki 4 (he_ro 4 r7)), (aM g of_ 2 (he_ro 2 r9))] ++ he_pl g L ln u.2.2.2.2.2.2.2.2.2.2.2.2.2) u) t) A) (by decide) rfl (Nat.le_of_ble_eq_true rfl) ?_
  intro p e s m args below meth c A ls H locs Q hQ hB
  obtain ⟨hx, hb, hr, hml, hown, hts, hlk, hin, hP, hK, hD, hS, hA, hE, hl⟩ := hB
  have hl : lv_has ls 2 [(0, .ref m0), (1, .int (nI n))] := hl
  have f85 := hts (.fieldLink RX11 85 "HiredEnemyModel" "thrown" "I") (iwoX11_siege (k := 0) rfl)
  have inX11 : ∀ w ∈ wsX110, w ∈ wsX11_siege := innX11_siege_X11
  have f88 := hts (.fieldLink RX11 88 "HiredEnemyModel" "tape" "I") (iwoX11_siege (k := 1) rfl)
  have f101 := hts (.fieldLink RX11 101 "HiredEnemyModel" "fault" "I") (iwoX11_siege (k := 2) rfl)
  have f104 := hts (.fieldLink RX11 104 "HiredEnemyModel" "faultAt" "I") (iwoX11_siege (k := 5) rfl)
  have f9 := hts (.fieldLink RX11 9 "HiredEnemyModel" "place" "I") (iwoX11_siege (k := 6) rfl)
  have f94 := hts (.fieldLink RX11 94 "HiredEnemyModel" "at" "I") (iwoX11_siege (k := 3) rfl)
  have f91 := hts (.fieldLink RX11 91 "HiredEnemyModel" "size" "I") (iwoX11_siege (k := 4) rfl)
  have f23 := hts (.fieldLink RX11 23 "HiredEnemyModel" "told" "[I") (iwoX11_siege (k := 7) rfl)
  refine lv_aload_n hx hb dX11_siege_0 rfl (lv_at hl 0 rfl) ?_
  refine lv_iconst (v := 0) hx hb dX11_siege_1 (by decide) ?_
  refine va_put (v := .int 0) (ty := .int) (T := TX11) (N := 35) hx hb hts inX11 tyX11 tyX11_ok nmX11 hown hK hP hD hS 0 rfl rfl 0 (by decide) f85 (fun _ h9 => h9) rfl (by decide +kernel) rfl rfl (Nat.le_of_ble_eq_true rfl) dX11_siege_2 (fun H locs hP hD hS => ?_)
  have hP : va_P g.1 vwCl ([(oX11 m0 0 (nI ta) sz_ pl at_ fa fw cs fd rfm rt_ to_ rw_ wa ct rk rb cn br sm as_ go sh_ ir oa ob th ig sp_ ki tg of_ kp sf rs), (aI g fd 500 fb), (aI g rt_ 25 f0), (aI g to_ 25 tf), (aI g sm 25 sf0), (aM g rw_ 6 (he_ro 6 r1)), (aM g wa 6 (he_ro 6 r2)), (aM g sh_ 120 (he_ro 120 r6)), (aM g ki 4 (he_ro 4 r7)), (aM g of_ 2 (he_ro 2 r9))] ++ he_pl g L ln M) H := hP
  have hD : va_D A ([(oX11 m0 0 (nI ta) sz_ pl at_ fa fw cs fd rfm rt_ to_ rw_ wa ct rk rb cn br sm as_ go sh_ ir oa ob th ig sp_ ki tg of_ kp sf rs), (aI g fd 500 fb), (aI g rt_ 25 f0), (aI g to_ 25 tf), (aI g sm 25 sf0), (aM g rw_ 6 (he_ro 6 r1)), (aM g wa 6 (he_ro 6 r2)), (aM g sh_ 120 (he_ro 120 r6)), (aM g ki 4 (he_ro 4 r7)), (aM g of_ 2 (he_ro 2 r9))] ++ he_pl g L ln M) := hD
  refine lv_aload_n hx hb dX11_siege_5 rfl (lv_at hl 0 rfl) ?_
  refine lv_iload_n hx hb dX11_siege_6 rfl (lv_at hl 1 rfl) ?_
  refine lv_iconst (v := 0) hx hb dX11_siege_7 (by decide) ?_
  refine lv_aload_n hx hb dX11_siege_8 rfl (lv_at hl 0 rfl) ?_
  refine va_get (v := .int (nI ta)) (T := TX11) (N := 35) hx hb hts inX11 hown hK hP 0 rfl rfl 1 (by decide) f88 (fun _ h9 => h9) rfl dX11_siege_9 ?_
  refine he_ci (wc := []) (wr := ([(oX11 m0 0 (nI ta) sz_ pl at_ fa fw cs fd rfm rt_ to_ rw_ wa ct rk rb cn br sm as_ go sh_ ir oa ob th ig sp_ ki tg of_ kp sf rs), (aI g fd 500 fb), (aI g rt_ 25 f0), (aI g to_ 25 tf), (aI g sm 25 sf0), (aM g rw_ 6 (he_ro 6 r1)), (aM g wa 6 (he_ro 6 r2)), (aM g sh_ 120 (he_ro 120 r6)), (aM g ki 4 (he_ro 4 r7)), (aM g of_ 2 (he_ro 2 r9))] ++ (he_pl g L ln M))) (va_runS (As := [.int (nI n), .int 0, .int (nI ta)]) (rest := [.ref m0]) ⟨hx, hb, hml, hown, hts⟩ (c_X11_in l g (nI n) 0 (nI ta) H.size) (va_cwS 3 hts gX11_siege_X11_in rfl rfl rfl (by decide +kernel) ⟨Nat.le_of_ble_eq_true rfl, Nat.le_of_ble_eq_true rfl⟩) (he_preS (wc := []) hK hP hD hS hA hE [] rfl rfl) rfl rfl hl.1 rfl (lv_room (Nat.le_of_ble_eq_true rfl)) dX11_siege_12 ⟨(Nat.le_of_ble_eq_true rfl), (Nat.le_of_ble_eq_true rfl)⟩) hP hD hS hA [] (he_is [0, 1, 2, 3, 4, 5, 6, 7, 8, 9] [(oX11 m0 0 (nI ta) sz_ pl at_ fa fw cs fd rfm rt_ to_ rw_ wa ct rk rb cn br sm as_ go sh_ ir oa ob th ig sp_ ki tg of_ kp sf rs), (aI g fd 500 fb), (aI g rt_ 25 f0), (aI g to_ 25 tf), (aI g sm 25 sf0), (aM g rw_ 6 (he_ro 6 r1)), (aM g wa 6 (he_ro 6 r2)), (aM g sh_ 120 (he_ro 120 r6)), (aM g ki 4 (he_ro 4 r7)), (aM g of_ 2 (he_ro 2 r9))] (he_pl g L ln M)) rfl (he_ixP rfl) (he_ndP rfl rfl) (he_disN (by decide) rfl) (fun r_1 u_2 H locs h_3 hP hD hS => ?_)
  have hP := va_P.swap hP
  have hD := va_D.swap hD
  subst h_3
  have hP : va_P g.1 vwCl ([(oX11 m0 0 (nI ta) sz_ pl at_ fa fw cs fd rfm rt_ to_ rw_ wa ct rk rb cn br sm as_ go sh_ ir oa ob th ig sp_ ki tg of_ kp sf rs), (aI g fd 500 fb), (aI g rt_ 25 f0), (aI g to_ 25 tf), (aI g sm 25 sf0), (aM g rw_ 6 (he_ro 6 r1)), (aM g wa 6 (he_ro 6 r2)), (aM g sh_ 120 (he_ro 120 r6)), (aM g ki 4 (he_ro 4 r7)), (aM g of_ 2 (he_ro 2 r9))] ++ he_pl g L ln M) H := hP
  have hD : va_D A ([(oX11 m0 0 (nI ta) sz_ pl at_ fa fw cs fd rfm rt_ to_ rw_ wa ct rk rb cn br sm as_ go sh_ ir oa ob th ig sp_ ki tg of_ kp sf rs), (aI g fd 500 fb), (aI g rt_ 25 f0), (aI g to_ 25 tf), (aI g sm 25 sf0), (aM g rw_ 6 (he_ro 6 r1)), (aM g wa 6 (he_ro 6 r2)), (aM g sh_ 120 (he_ro 120 r6)), (aM g ki 4 (he_ro 4 r7)), (aM g of_ 2 (he_ro 2 r9))] ++ he_pl g L ln M) := hD
  refine he_top (1) (he_within_in (a0 := 0) (B := ta) rfl rfl (by omega) (by omega) (by omega)) ?_
  refine lv_if_ne (tgt := 22) hx hb dX11_siege_15 (by decide) (fun c_4 => ?_) (fun c_4 => ?_)
  · refine lv_iconst (v := 0) hx hb dX11_siege_22 (by decide) ?_
    refine lv_iconst (v := 1) hx hb dX11_siege_23 (by decide) ?_
    refine lv_iconst (v := 2) hx hb dX11_siege_24 (by decide) ?_
    refine he_ci (wc := [(oX11 m0 0 (nI ta) sz_ pl at_ fa fw cs fd rfm rt_ to_ rw_ wa ct rk rb cn br sm as_ go sh_ ir oa ob th ig sp_ ki tg of_ kp sf rs)]) (wr := ([(aI g fd 500 fb), (aI g rt_ 25 f0), (aI g to_ 25 tf), (aI g sm 25 sf0), (aM g rw_ 6 (he_ro 6 r1)), (aM g wa 6 (he_ro 6 r2)), (aM g sh_ 120 (he_ro 120 r6)), (aM g ki 4 (he_ro 4 r7)), (aM g of_ 2 (he_ro 2 r9))] ++ (he_pl g L ln M))) (va_runV (As := [.int 0, .int 1, .int 2]) (rest := []) ⟨hx, hb, hml, hown, hts⟩ (c_X11_bad0 l g m0 fd rfm rt_ to_ rw_ wa rk rb cn br sm as_ go sh_ ki tg of_ kp rs (nI ta) sz_ pl at_ fa fw cs ct ir oa ob th ig sp_ sf 1 2 H.size) (cwV 3 hts gX11_siege_X11_bad rfl rfl rfl (by decide +kernel) ⟨Nat.le_of_ble_eq_true rfl, Nat.le_of_ble_eq_true rfl⟩) (he_preV (wc := [(oX11 m0 0 (nI ta) sz_ pl at_ fa fw cs fd rfm rt_ to_ rw_ wa ct rk rb cn br sm as_ go sh_ ir oa ob th ig sp_ ki tg of_ kp sf rs)]) hK hP hD hS hA hE [0] rfl rfl 0 rfl rfl) rfl rfl hl.1 rfl (lv_room (Nat.le_of_ble_eq_true rfl)) dX11_siege_25 ⟨(Nat.le_of_ble_eq_true rfl), (Nat.le_of_ble_eq_true rfl)⟩) hP hD hS hA [0] (he_is [1, 2, 3, 4, 5, 6, 7, 8, 9] [(oX11 m0 0 (nI ta) sz_ pl at_ fa fw cs fd rfm rt_ to_ rw_ wa ct rk rb cn br sm as_ go sh_ ir oa ob th ig sp_ ki tg of_ kp sf rs), (aI g fd 500 fb), (aI g rt_ 25 f0), (aI g to_ 25 tf), (aI g sm 25 sf0), (aM g rw_ 6 (he_ro 6 r1)), (aM g wa 6 (he_ro 6 r2)), (aM g sh_ 120 (he_ro 120 r6)), (aM g ki 4 (he_ro 4 r7)), (aM g of_ 2 (he_ro 2 r9))] (he_pl g L ln M)) rfl (he_ixP rfl) (he_ndP rfl rfl) (he_disN (by decide) rfl) (fun r_5 u_6 H locs h_7 hP hD hS => ?_)
    have hP := va_P.swap hP
    have hD := va_D.swap hD
    subst h_7
    have hP : va_P g.1 vwCl ([(aI g fd 500 fb), (aI g rt_ 25 f0), (aI g to_ 25 tf), (aI g sm 25 sf0), (aM g rw_ 6 (he_ro 6 r1)), (aM g wa 6 (he_ro 6 r2)), (aM g sh_ 120 (he_ro 120 r6)), (aM g ki 4 (he_ro 4 r7)), (aM g of_ 2 (he_ro 2 r9)), (oX11 m0 0 (nI ta) sz_ pl at_ fa fw cs fd rfm rt_ to_ rw_ wa ct rk rb cn br sm as_ go sh_ ir oa ob th ig sp_ ki tg of_ kp sf rs)] ++ he_pl g L ln M) H := hP
    have hD : va_D A ([(aI g fd 500 fb), (aI g rt_ 25 f0), (aI g to_ 25 tf), (aI g sm 25 sf0), (aM g rw_ 6 (he_ro 6 r1)), (aM g wa 6 (he_ro 6 r2)), (aM g sh_ 120 (he_ro 120 r6)), (aM g ki 4 (he_ro 4 r7)), (aM g of_ 2 (he_ro 2 r9)), (oX11 m0 0 (nI ta) sz_ pl at_ fa fw cs fd rfm rt_ to_ rw_ wa ct rk rb cn br sm as_ go sh_ ir oa ob th ig sp_ ki tg of_ kp sf rs)] ++ he_pl g L ln M) := hD
    refine lv_if_eq (tgt := 33) hx hb dX11_siege_28 (by decide) (fun c_8 => ?_) (fun c_8 => ?_)
    · refine lv_aload_n hx hb dX11_siege_33 rfl (lv_at hl 0 rfl) ?_
      refine lv_iload_n hx hb dX11_siege_34 rfl (lv_at hl 1 rfl) ?_
      refine he_cv (wc := [(oX11 m0 0 (nI ta) sz_ pl at_ fa fw cs fd rfm rt_ to_ rw_ wa ct rk rb cn br sm as_ go sh_ ir oa ob th ig sp_ ki tg of_ kp sf rs), (aI g fd 500 fb)]) (wr := ([(aI g rt_ 25 f0), (aI g to_ 25 tf), (aI g sm 25 sf0), (aM g rw_ 6 (he_ro 6 r1)), (aM g wa 6 (he_ro 6 r2)), (aM g sh_ 120 (he_ro 120 r6)), (aM g ki 4 (he_ro 4 r7)), (aM g of_ 2 (he_ro 2 r9))] ++ (he_pl g L ln M))) (va_runV (As := [.int (nI n)]) (rest := []) ⟨hx, hb, hml, hown, hts⟩ (q_X11_starts l g m0 fd rfm rt_ to_ rw_ wa rk rb cn br sm as_ go sh_ ki tg of_ kp rs (nI ta) sz_ pl at_ fa fw cs ct ir oa ob th ig sp_ sf 0 n fb T (by omega) (by first | assumption | decide | omega) H.size) (cwV 1 hts gX11_siege_X11_starts rfl rfl rfl (by decide +kernel) ⟨Nat.le_of_ble_eq_true rfl, Nat.le_of_ble_eq_true rfl⟩) (he_preV (wc := [(oX11 m0 0 (nI ta) sz_ pl at_ fa fw cs fd rfm rt_ to_ rw_ wa ct rk rb cn br sm as_ go sh_ ir oa ob th ig sp_ ki tg of_ kp sf rs), (aI g fd 500 fb)]) hK hP hD hS hA hE [9, 0] rfl rfl 9 rfl rfl) rfl rfl hl.1 rfl (lv_room (Nat.le_of_ble_eq_true rfl)) dX11_siege_35 ⟨(Nat.le_of_ble_eq_true rfl), (Nat.le_of_ble_eq_true rfl)⟩) hP hD hS hA [9, 0] (he_is [1, 2, 3, 4, 5, 6, 7, 8] [(aI g fd 500 fb), (aI g rt_ 25 f0), (aI g to_ 25 tf), (aI g sm 25 sf0), (aM g rw_ 6 (he_ro 6 r1)), (aM g wa 6 (he_ro 6 r2)), (aM g sh_ 120 (he_ro 120 r6)), (aM g ki 4 (he_ro 4 r7)), (aM g of_ 2 (he_ro 2 r9)), (oX11 m0 0 (nI ta) sz_ pl at_ fa fw cs fd rfm rt_ to_ rw_ wa ct rk rb cn br sm as_ go sh_ ir oa ob th ig sp_ ki tg of_ kp sf rs)] (he_pl g L ln M)) rfl (he_ixP rfl) (he_ndP rfl rfl) (he_disN (by decide) rfl) (fun u_10 H locs h_11 hP hD hS => ?_)
      have hP := va_P.swap hP
      have hD := va_D.swap hD
      have hP : va_P g.1 vwCl ([(aI g rt_ 25 f0), (aI g to_ 25 tf), (aI g sm 25 sf0), (aM g rw_ 6 (he_ro 6 r1)), (aM g wa 6 (he_ro 6 r2)), (aM g sh_ 120 (he_ro 120 r6)), (aM g ki 4 (he_ro 4 r7)), (aM g of_ 2 (he_ro 2 r9)), (oX11 m0 0 0 (nI n) pl (nI (rn isBl T n 0)) 0 (-1) 0 fd rfm rt_ to_ rw_ wa ct rk rb cn br sm as_ go sh_ ir oa ob th ig sp_ ki tg of_ kp sf rs), (aI g fd 500 fb)] ++ he_pl g L ln M) H := hP
      have hD : va_D A ([(aI g rt_ 25 f0), (aI g to_ 25 tf), (aI g sm 25 sf0), (aM g rw_ 6 (he_ro 6 r1)), (aM g wa 6 (he_ro 6 r2)), (aM g sh_ 120 (he_ro 120 r6)), (aM g ki 4 (he_ro 4 r7)), (aM g of_ 2 (he_ro 2 r9)), (oX11 m0 0 0 (nI n) pl (nI (rn isBl T n 0)) 0 (-1) 0 fd rfm rt_ to_ rw_ wa ct rk rb cn br sm as_ go sh_ ir oa ob th ig sp_ ki tg of_ kp sf rs), (aI g fd 500 fb)] ++ he_pl g L ln M) := hD
      refine lv_aload_n hx hb dX11_siege_38 rfl (lv_at hl 0 rfl) ?_
      refine he_cv (wc := [(oX11 m0 0 0 (nI n) pl (nI (rn isBl T n 0)) 0 (-1) 0 fd rfm rt_ to_ rw_ wa ct rk rb cn br sm as_ go sh_ ir oa ob th ig sp_ ki tg of_ kp sf rs), (aI g rt_ 25 f0)]) (wr := ([(aI g to_ 25 tf), (aI g sm 25 sf0), (aM g rw_ 6 (he_ro 6 r1)), (aM g wa 6 (he_ro 6 r2)), (aM g sh_ 120 (he_ro 120 r6)), (aM g ki 4 (he_ro 4 r7)), (aM g of_ 2 (he_ro 2 r9)), (aI g fd 500 fb)] ++ (he_pl g L ln M))) (va_runV (As := []) (rest := []) ⟨hx, hb, hml, hown, hts⟩ (c_X11_tellsNothing l g m0 fd rfm rt_ to_ rw_ wa rk rb cn br sm as_ go sh_ ki tg of_ kp rs 0 (nI n) pl (nI (rn isBl T n 0)) 0 (-1) 0 ct ir oa ob th ig sp_ sf 0 f0 H.size) (cwV 0 hts gX11_siege_X11_tellsNothing rfl rfl rfl (by decide +kernel) ⟨Nat.le_of_ble_eq_true rfl, Nat.le_of_ble_eq_true rfl⟩) (he_preV (wc := [(oX11 m0 0 0 (nI n) pl (nI (rn isBl T n 0)) 0 (-1) 0 fd rfm rt_ to_ rw_ wa ct rk rb cn br sm as_ go sh_ ir oa ob th ig sp_ ki tg of_ kp sf rs), (aI g rt_ 25 f0)]) hK hP hD hS hA hE [8, 0] rfl rfl 8 rfl rfl) rfl rfl hl.1 rfl (lv_room (Nat.le_of_ble_eq_true rfl)) dX11_siege_39 ⟨(Nat.le_of_ble_eq_true rfl), (Nat.le_of_ble_eq_true rfl)⟩) hP hD hS hA [8, 0] (he_is [1, 2, 3, 4, 5, 6, 7, 9] [(aI g rt_ 25 f0), (aI g to_ 25 tf), (aI g sm 25 sf0), (aM g rw_ 6 (he_ro 6 r1)), (aM g wa 6 (he_ro 6 r2)), (aM g sh_ 120 (he_ro 120 r6)), (aM g ki 4 (he_ro 4 r7)), (aM g of_ 2 (he_ro 2 r9)), (oX11 m0 0 0 (nI n) pl (nI (rn isBl T n 0)) 0 (-1) 0 fd rfm rt_ to_ rw_ wa ct rk rb cn br sm as_ go sh_ ir oa ob th ig sp_ ki tg of_ kp sf rs), (aI g fd 500 fb)] (he_pl g L ln M)) rfl (he_ixP rfl) (he_ndP rfl rfl) (he_disN (by decide) rfl) (fun u_13 H locs h_14 hP hD hS => ?_)
      have hP := va_P.swap hP
      have hD := va_D.swap hD
      have hP : va_P g.1 vwCl ([(aI g to_ 25 tf), (aI g sm 25 sf0), (aM g rw_ 6 (he_ro 6 r1)), (aM g wa 6 (he_ro 6 r2)), (aM g sh_ 120 (he_ro 120 r6)), (aM g ki 4 (he_ro 4 r7)), (aM g of_ 2 (he_ro 2 r9)), (aI g fd 500 fb), (oX11 m0 0 0 (nI n) pl (nI (rn isBl T n 0)) 0 (-1) 0 fd rfm rt_ to_ rw_ wa ct rk rb cn br sm as_ go sh_ ir oa ob th ig sp_ ki tg of_ kp sf rs), (aI g rt_ 25 (tnF f0))] ++ he_pl g L ln M) H := hP
      have hD : va_D A ([(aI g to_ 25 tf), (aI g sm 25 sf0), (aM g rw_ 6 (he_ro 6 r1)), (aM g wa 6 (he_ro 6 r2)), (aM g sh_ 120 (he_ro 120 r6)), (aM g ki 4 (he_ro 4 r7)), (aM g of_ 2 (he_ro 2 r9)), (aI g fd 500 fb), (oX11 m0 0 0 (nI n) pl (nI (rn isBl T n 0)) 0 (-1) 0 fd rfm rt_ to_ rw_ wa ct rk rb cn br sm as_ go sh_ ir oa ob th ig sp_ ki tg of_ kp sf rs), (aI g rt_ 25 (tnF f0))] ++ he_pl g L ln M) := hD
      refine W.widen (k := 1) (n := 15) (Nat.le_of_ble_eq_true rfl) (Nat.le_of_ble_eq_true rfl) ?_
      have loop42 : ∀ (n9 : Nat) (kj : Nat) (fj : Int32) (fg : Int32) (cj : Nat) (wj : Nat) (rj : Nat → Int32) (Mj : Nat → Nat → Int32), (if fj = 0 then 61 - cj else 0) < n9 → (kj ≤ n) → (cj ≤ 60) → (wj ≤ 6) → (rj 0 = nI wj) → (mEx r1 6 M Mj) → ((fj = 0 ∧ fg = -1 ∧ rn isBl T n kj = kj ∧ (txP T n wl6 bd6 fl6 (61 - cj) cj wj kj).1 = (txP T n wl6 bd6 fl6 61 0 0 0).1 ∧ fdW (txP T n wl6 bd6 fl6 (61 - cj) cj wj kj).2 wj = fdW (txP T n wl6 bd6 fl6 61 0 0 0).2 0) ∨ (¬ fj = 0 ∧ fj = faC (txP T n wl6 bd6 fl6 61 0 0 0).1 ∧ fg = faP (txP T n wl6 bd6 fl6 61 0 0 0).1)) → (fj = 0 → (mtF (txP T n wl6 bd6 fl6 (61 - cj) cj wj kj).2 wj rj = mtF (txP T n wl6 bd6 fl6 61 0 0 0).2 0 (tnF f0) ∧ ∀ i, i < fdW (txP T n wl6 bd6 fl6 61 0 0 0).2 0 → fdT (txP T n wl6 bd6 fl6 (61 - cj) cj wj kj).2 wj (fun i9 => Mj (r1 i9) 0) i = fdT (txP T n wl6 bd6 fl6 61 0 0 0).2 0 (fun _ => 0) i ∧ fdM (txP T n wl6 bd6 fl6 (61 - cj) cj wj kj).2 wj (fun i9 => Mj (r1 i9) 1) i = fdM (txP T n wl6 bd6 fl6 61 0 0 0).2 0 (fun _ => 0) i)) → ∀ (H : Heap) (locs : List Loc) (ls : Array Slot), va_P g.1 vwCl ([(oX11 m0 0 0 (nI n) pl (nI kj) fj fg (nI cj) fd rfm rt_ to_ rw_ wa ct rk rb cn br sm as_ go sh_ ir oa ob th ig sp_ ki tg of_ kp sf rs), (aI g fd 500 fb), (aI g rt_ 25 rj), (aI g to_ 25 tf), (aI g sm 25 sf0), (aM g rw_ 6 (he_ro 6 r1)), (aM g wa 6 (he_ro 6 r2)), (aM g sh_ 120 (he_ro 120 r6)), (aM g ki 4 (he_ro 4 r7)), (aM g of_ 2 (he_ro 2 r9))] ++ he_pl g L ln Mj) H → va_D A ([(oX11 m0 0 0 (nI n) pl (nI kj) fj fg (nI cj) fd rfm rt_ to_ rw_ wa ct rk rb cn br sm as_ go sh_ ir oa ob th ig sp_ ki tg of_ kp sf rs), (aI g fd 500 fb), (aI g rt_ 25 rj), (aI g to_ 25 tf), (aI g sm 25 sf0), (aM g rw_ 6 (he_ro 6 r1)), (aM g wa 6 (he_ro 6 r2)), (aM g sh_ 120 (he_ro 120 r6)), (aM g ki 4 (he_ro 4 r7)), (aM g of_ 2 (he_ro 2 r9))] ++ he_pl g L ln Mj) → va_S A s.heap H locs → lv_has ls 2 [(0, .ref m0), (1, .int (nI n))] → W p l e (he_room 6 131 1 15) s m args below meth c H locs 1 15 Q (F0 m 42 ls []) := by
        intro n9
        induction n9 with
        | zero => intro kj fj fg cj wj rj Mj hm9; exact absurd hm9 (Nat.not_lt_zero _)
        | succ n9 ih42 =>
          intro kj fj fg cj wj rj Mj hm9 hkj hcj hwj hrj hmx hDj hEn H locs ls hP hD hS hl
          refine lv_aload_n hx hb dX11_siege_42 rfl (lv_at hl 0 rfl) ?_
          refine va_get (v := .int fj) (T := TX11) (N := 35) hx hb hts inX11 hown hK hP 0 rfl rfl 5 (by decide) f101 (fun _ h9 => h9) rfl dX11_siege_43 ?_
          refine lv_if_ne (tgt := 71) hx hb dX11_siege_46 (by decide) (fun c_15 => ?_) (fun c_15 => ?_)
          · have hD2 := hDj.resolve_left (fun h9 => c_15 h9.1)
            refine lv_aload_n hx hb dX11_siege_71 rfl (lv_at hl 0 rfl) ?_
            refine lv_aload_n hx hb dX11_siege_72 rfl (lv_at hl 0 rfl) ?_
            refine va_get (v := .int fg) (T := TX11) (N := 35) hx hb hts inX11 hown hK hP 0 rfl rfl 6 (by decide) f104 (fun _ h9 => h9) rfl dX11_siege_73 ?_
            refine va_put (v := .int fg) (ty := .int) (T := TX11) (N := 35) hx hb hts inX11 tyX11 tyX11_ok nmX11 hown hK hP hD hS 0 rfl rfl 3 (by decide) f9 (fun _ h9 => h9) rfl (by decide +kernel) rfl rfl (Nat.le_of_ble_eq_true rfl) dX11_siege_76 (fun H locs hP hD hS => ?_)
            have hP : va_P g.1 vwCl ([(oX11 m0 0 0 (nI n) fg (nI kj) fj fg (nI cj) fd rfm rt_ to_ rw_ wa ct rk rb cn br sm as_ go sh_ ir oa ob th ig sp_ ki tg of_ kp sf rs), (aI g fd 500 fb), (aI g rt_ 25 rj), (aI g to_ 25 tf), (aI g sm 25 sf0), (aM g rw_ 6 (he_ro 6 r1)), (aM g wa 6 (he_ro 6 r2)), (aM g sh_ 120 (he_ro 120 r6)), (aM g ki 4 (he_ro 4 r7)), (aM g of_ 2 (he_ro 2 r9))] ++ he_pl g L ln Mj) H := hP
            have hD : va_D A ([(oX11 m0 0 0 (nI n) fg (nI kj) fj fg (nI cj) fd rfm rt_ to_ rw_ wa ct rk rb cn br sm as_ go sh_ ir oa ob th ig sp_ ki tg of_ kp sf rs), (aI g fd 500 fb), (aI g rt_ 25 rj), (aI g to_ 25 tf), (aI g sm 25 sf0), (aM g rw_ 6 (he_ro 6 r1)), (aM g wa 6 (he_ro 6 r2)), (aM g sh_ 120 (he_ro 120 r6)), (aM g ki 4 (he_ro 4 r7)), (aM g of_ 2 (he_ro 2 r9))] ++ he_pl g L ln Mj) := hD
            refine lv_aload_n hx hb dX11_siege_79 rfl (lv_at hl 0 rfl) ?_
            refine va_get (v := .int fj) (T := TX11) (N := 35) hx hb hts inX11 hown hK hP 0 rfl rfl 5 (by decide) f101 (fun _ h9 => h9) rfl dX11_siege_80 ?_
            refine lv_if_eq (tgt := 94) hx hb dX11_siege_83 (by decide) (fun c_16 => ?_) (fun c_16 => ?_)
            · exact absurd c_16 c_15
            · refine lv_aload_n hx hb dX11_siege_86 rfl (lv_at hl 0 rfl) ?_
              refine va_get (v := .int fj) (T := TX11) (N := 35) hx hb hts inX11 hown hK hP 0 rfl rfl 5 (by decide) f101 (fun _ h9 => h9) rfl dX11_siege_87 ?_
              refine lv_bipush (v := 10) hx hb dX11_siege_90 (by decide) ?_
              refine lv_isub hx hb dX11_siege_92 ?_
              exact he_ri hQ hx hb hr hlk hP hD hS dX11_siege_93 (Nat.le_of_ble_eq_true rfl) (Nat.le_of_ble_eq_true rfl) ((ct, oa, ob, th, ig, kj, fj, fg, nI cj, wj, rj, tf, sf0, Mj)) (rfl) (by (try dsimp only); exact ⟨by (try dsimp only); omega, by (try dsimp only); omega, Or.inl ⟨rfl, rfl, rfl, rfl, rfl, rfl, rfl, hmx, c_16, rfl⟩, hD2.2.1, hD2.2.2, fun h9 => absurd h9 hD2.1, fun h9 => absurd h9 hD2.1⟩)
          · obtain ⟨_, hg0, hbl, hX1, hXw⟩ := hDj.resolve_right (fun h9 => h9.1 c_15)
            refine lv_aload_n hx hb dX11_siege_49 rfl (lv_at hl 0 rfl) ?_
            refine va_get (v := .int (nI kj)) (T := TX11) (N := 35) hx hb hts inX11 hown hK hP 0 rfl rfl 4 (by decide) f94 (fun _ h9 => h9) rfl dX11_siege_50 ?_
            refine lv_aload_n hx hb dX11_siege_53 rfl (lv_at hl 0 rfl) ?_
            refine va_get (v := .int (nI n)) (T := TX11) (N := 35) hx hb hts inX11 hown hK hP 0 rfl rfl 2 (by decide) f91 (fun _ h9 => h9) rfl dX11_siege_54 ?_
            refine lv_icmp_ge (tgt := 71) hx hb dX11_siege_57 (by decide) (fun c_17 => ?_) (fun c_17 => ?_)
            · have k_18 : n ≤ kj := (he_cle (a := n) (b := kj) rfl rfl (by omega) (by omega)).mp c_17
              refine lv_aload_n hx hb dX11_siege_71 rfl (lv_at hl 0 rfl) ?_
              refine lv_aload_n hx hb dX11_siege_72 rfl (lv_at hl 0 rfl) ?_
              refine va_get (v := .int fg) (T := TX11) (N := 35) hx hb hts inX11 hown hK hP 0 rfl rfl 6 (by decide) f104 (fun _ h9 => h9) rfl dX11_siege_73 ?_
              refine va_put (v := .int fg) (ty := .int) (T := TX11) (N := 35) hx hb hts inX11 tyX11 tyX11_ok nmX11 hown hK hP hD hS 0 rfl rfl 3 (by decide) f9 (fun _ h9 => h9) rfl (by decide +kernel) rfl rfl (Nat.le_of_ble_eq_true rfl) dX11_siege_76 (fun H locs hP hD hS => ?_)
              have hP : va_P g.1 vwCl ([(oX11 m0 0 0 (nI n) fg (nI kj) fj fg (nI cj) fd rfm rt_ to_ rw_ wa ct rk rb cn br sm as_ go sh_ ir oa ob th ig sp_ ki tg of_ kp sf rs), (aI g fd 500 fb), (aI g rt_ 25 rj), (aI g to_ 25 tf), (aI g sm 25 sf0), (aM g rw_ 6 (he_ro 6 r1)), (aM g wa 6 (he_ro 6 r2)), (aM g sh_ 120 (he_ro 120 r6)), (aM g ki 4 (he_ro 4 r7)), (aM g of_ 2 (he_ro 2 r9))] ++ he_pl g L ln Mj) H := hP
              have hD : va_D A ([(oX11 m0 0 0 (nI n) fg (nI kj) fj fg (nI cj) fd rfm rt_ to_ rw_ wa ct rk rb cn br sm as_ go sh_ ir oa ob th ig sp_ ki tg of_ kp sf rs), (aI g fd 500 fb), (aI g rt_ 25 rj), (aI g to_ 25 tf), (aI g sm 25 sf0), (aM g rw_ 6 (he_ro 6 r1)), (aM g wa 6 (he_ro 6 r2)), (aM g sh_ 120 (he_ro 120 r6)), (aM g ki 4 (he_ro 4 r7)), (aM g of_ 2 (he_ro 2 r9))] ++ he_pl g L ln Mj) := hD
              refine lv_aload_n hx hb dX11_siege_79 rfl (lv_at hl 0 rfl) ?_
              refine va_get (v := .int fj) (T := TX11) (N := 35) hx hb hts inX11 hown hK hP 0 rfl rfl 5 (by decide) f101 (fun _ h9 => h9) rfl dX11_siege_80 ?_
              refine lv_if_eq (tgt := 94) hx hb dX11_siege_83 (by decide) (fun c_19 => ?_) (fun c_19 => ?_)
              · refine lv_aload_n hx hb dX11_siege_94 rfl (lv_at hl 0 rfl) ?_
                refine he_cv (wc := ([(oX11 m0 0 0 (nI n) fg (nI kj) fj fg (nI cj) fd rfm rt_ to_ rw_ wa ct rk rb cn br sm as_ go sh_ ir oa ob th ig sp_ ki tg of_ kp sf rs), (aI g rt_ 25 rj), (aI g to_ 25 tf), (aI g sm 25 sf0), (aM g rw_ 6 (he_ro 6 r1)), (aM g wa 6 (he_ro 6 r2)), (aM g sh_ 120 (he_ro 120 r6)), (aM g ki 4 (he_ro 4 r7)), (aM g of_ 2 (he_ro 2 r9))] ++ (he_pl g L ln Mj))) (wr := [(aI g fd 500 fb)]) (va_runV (As := []) (rest := []) ⟨hx, hb, hml, hown, hts⟩ (r_X11_stands0 l g m0 fd rfm rt_ to_ rw_ wa rk rb cn br sm as_ go sh_ ki tg of_ kp rs 0 (nI n) fg (nI kj) fj fg (nI cj) ct ir oa ob th ig sp_ sf 0 rj tf sf0 wj L ln Mj r1 r2 r6 r7 r9 (by first | assumption | decide | omega) (by first | assumption | decide | omega) (by first | assumption | decide | omega) (by first | assumption | decide | omega) (by first | assumption | decide | omega) (by first | assumption | decide | omega) (by first | assumption | decide | omega) (by first | assumption | decide | omega) (by first | assumption | decide | omega) (by first | assumption | decide | omega) (by first | assumption | decide | omega) (by first | assumption | decide | omega) (by first | assumption | decide | omega) hrj hwj H.size) (cwV 0 hts gX11_siege_X11_stands0 rfl rfl rfl (by decide +kernel) ⟨Nat.le_of_ble_eq_true rfl, Nat.le_of_ble_eq_true rfl⟩) (he_preV (wc := ([(oX11 m0 0 0 (nI n) fg (nI kj) fj fg (nI cj) fd rfm rt_ to_ rw_ wa ct rk rb cn br sm as_ go sh_ ir oa ob th ig sp_ ki tg of_ kp sf rs), (aI g rt_ 25 rj), (aI g to_ 25 tf), (aI g sm 25 sf0), (aM g rw_ 6 (he_ro 6 r1)), (aM g wa 6 (he_ro 6 r2)), (aM g sh_ 120 (he_ro 120 r6)), (aM g ki 4 (he_ro 4 r7)), (aM g of_ 2 (he_ro 2 r9))] ++ (he_pl g L ln Mj))) hK hP hD hS hA hE (he_is [0, 2, 3, 4, 5, 6, 7, 8, 9] [(oX11 m0 0 0 (nI n) fg (nI kj) fj fg (nI cj) fd rfm rt_ to_ rw_ wa ct rk rb cn br sm as_ go sh_ ir oa ob th ig sp_ ki tg of_ kp sf rs), (aI g fd 500 fb), (aI g rt_ 25 rj), (aI g to_ 25 tf), (aI g sm 25 sf0), (aM g rw_ 6 (he_ro 6 r1)), (aM g wa 6 (he_ro 6 r2)), (aM g sh_ 120 (he_ro 120 r6)), (aM g ki 4 (he_ro 4 r7)), (aM g of_ 2 (he_ro 2 r9))] (he_pl g L ln Mj)) (he_ixP rfl) (he_ndP rfl rfl) 0 rfl rfl) rfl rfl hl.1 rfl (lv_room (Nat.le_of_ble_eq_true rfl)) dX11_siege_95 ⟨(Nat.le_of_ble_eq_true rfl), (Nat.le_of_ble_eq_true rfl)⟩) hP hD hS hA (he_is [0, 2, 3, 4, 5, 6, 7, 8, 9] [(oX11 m0 0 0 (nI n) fg (nI kj) fj fg (nI cj) fd rfm rt_ to_ rw_ wa ct rk rb cn br sm as_ go sh_ ir oa ob th ig sp_ ki tg of_ kp sf rs), (aI g fd 500 fb), (aI g rt_ 25 rj), (aI g to_ 25 tf), (aI g sm 25 sf0), (aM g rw_ 6 (he_ro 6 r1)), (aM g wa 6 (he_ro 6 r2)), (aM g sh_ 120 (he_ro 120 r6)), (aM g ki 4 (he_ro 4 r7)), (aM g of_ 2 (he_ro 2 r9))] (he_pl g L ln Mj)) [1] (he_ixP rfl) rfl rfl (he_disP (by decide) rfl) (fun u_21 H locs h_22 hP hD hS => ?_)
                obtain ⟨uf_23, Mu_24⟩ := u_21
                try dsimp only at h_22
                obtain ⟨hf_25, hf_26, hf_27, hf_28, hf_29⟩ := h_22
                have hP : va_P g.1 vwCl ([(aI g fd 500 fb), (oX11 m0 0 0 (nI n) fg (nI kj) fj fg (nI cj) fd rfm rt_ to_ rw_ wa 0 rk rb cn br sm as_ go sh_ ir 1 1 0 0 sp_ ki tg of_ kp sf rs), (aI g rt_ 25 rj), (aI g to_ 25 (flF rj tf 25)), (aI g sm 25 uf_23), (aM g rw_ 6 (he_ro 6 r1)), (aM g wa 6 (he_ro 6 r2)), (aM g sh_ 120 (he_ro 120 r6)), (aM g ki 4 (he_ro 4 r7)), (aM g of_ 2 (he_ro 2 r9))] ++ he_pl g L ln Mu_24) H := hP
                have hD : va_D A ([(aI g fd 500 fb), (oX11 m0 0 0 (nI n) fg (nI kj) fj fg (nI cj) fd rfm rt_ to_ rw_ wa 0 rk rb cn br sm as_ go sh_ ir 1 1 0 0 sp_ ki tg of_ kp sf rs), (aI g rt_ 25 rj), (aI g to_ 25 (flF rj tf 25)), (aI g sm 25 uf_23), (aM g rw_ 6 (he_ro 6 r1)), (aM g wa 6 (he_ro 6 r2)), (aM g sh_ 120 (he_ro 120 r6)), (aM g ki 4 (he_ro 4 r7)), (aM g of_ 2 (he_ro 2 r9))] ++ he_pl g L ln Mu_24) := hD
                refine lv_aload_n hx hb dX11_siege_98 rfl (lv_at hl 0 rfl) ?_
                refine va_get (v := .ref to_) (T := TX11) (N := 35) hx hb hts inX11 hown hK hP 1 rfl rfl 11 (by decide) f23 (fun _ h9 => h9) rfl dX11_siege_99 ?_
                refine lv_iconst (v := 0) hx hb dX11_siege_102 (by decide) ?_
                refine he_iald hx hb hK hP 3 rfl (0) (by decide) (by decide) (by first | decide | assumption) (nI wj) (by rw [fl_0]; exact hrj) dX11_siege_103 ?_
                have hP := he_Psub (X := [(aI g fd 500 fb), (oX11 m0 0 0 (nI n) fg (nI kj) fj fg (nI cj) fd rfm rt_ to_ rw_ wa 0 rk rb cn br sm as_ go sh_ ir 1 1 0 0 sp_ ki tg of_ kp sf rs), (aI g rt_ 25 rj), (aI g to_ 25 (flF rj tf 25)), (aI g sm 25 uf_23), (aM g rw_ 6 (he_ro 6 r1)), (aM g wa 6 (he_ro 6 r2)), (aM g sh_ 120 (he_ro 120 r6)), (aM g ki 4 (he_ro 4 r7)), (aM g of_ 2 (he_ro 2 r9))]) (X2 := [(oX11 m0 0 0 (nI n) fg (nI kj) fj fg (nI cj) fd rfm rt_ to_ rw_ wa 0 rk rb cn br sm as_ go sh_ ir 1 1 0 0 sp_ ki tg of_ kp sf rs), (aI g fd 500 fb), (aI g rt_ 25 rj), (aI g to_ 25 (flF rj tf 25)), (aI g sm 25 uf_23), (aM g rw_ 6 (he_ro 6 r1)), (aM g wa 6 (he_ro 6 r2)), (aM g sh_ 120 (he_ro 120 r6)), (aM g ki 4 (he_ro 4 r7)), (aM g of_ 2 (he_ro 2 r9))]) (P := (he_pl g L ln Mu_24)) hP [1, 0, 2, 3, 4, 5, 6, 7, 8, 9] rfl
                have hD := he_Dsub (X := [(aI g fd 500 fb), (oX11 m0 0 0 (nI n) fg (nI kj) fj fg (nI cj) fd rfm rt_ to_ rw_ wa 0 rk rb cn br sm as_ go sh_ ir 1 1 0 0 sp_ ki tg of_ kp sf rs), (aI g rt_ 25 rj), (aI g to_ 25 (flF rj tf 25)), (aI g sm 25 uf_23), (aM g rw_ 6 (he_ro 6 r1)), (aM g wa 6 (he_ro 6 r2)), (aM g sh_ 120 (he_ro 120 r6)), (aM g ki 4 (he_ro 4 r7)), (aM g of_ 2 (he_ro 2 r9))]) (X2 := [(oX11 m0 0 0 (nI n) fg (nI kj) fj fg (nI cj) fd rfm rt_ to_ rw_ wa 0 rk rb cn br sm as_ go sh_ ir 1 1 0 0 sp_ ki tg of_ kp sf rs), (aI g fd 500 fb), (aI g rt_ 25 rj), (aI g to_ 25 (flF rj tf 25)), (aI g sm 25 uf_23), (aM g rw_ 6 (he_ro 6 r1)), (aM g wa 6 (he_ro 6 r2)), (aM g sh_ 120 (he_ro 120 r6)), (aM g ki 4 (he_ro 4 r7)), (aM g of_ 2 (he_ro 2 r9))]) (P := (he_pl g L ln Mu_24)) hD [1, 0, 2, 3, 4, 5, 6, 7, 8, 9] rfl rfl rfl
                exact he_ri hQ hx hb hr hlk hP hD hS dX11_siege_104 (Nat.le_of_ble_eq_true rfl) (Nat.le_of_ble_eq_true rfl) ((0, 1, 1, 0, 0, kj, fj, fg, nI cj, wj, rj, flF rj tf 25, uf_23, Mu_24)) (rfl) (by (try dsimp only); exact (by have e9 : (txP T n wl6 bd6 fl6 (61 - cj) cj wj kj) = (none, []) := tx_e (by (try dsimp only); rw [hbl]; omega); have hE9 := hEn c_19; rw [e9] at hX1 hXw hE9; exact ⟨by (try dsimp only); omega, by (try dsimp only); omega, Or.inr ⟨rfl, rfl, rfl, rfl, rfl, (by (try dsimp only); rw [fl_0]; exact hrj), hf_25, hf_26, hf_27, c_19, rfl⟩, by rw [← hX1]; exact c_19, by rw [← hX1]; exact hg0, fun _ => ⟨hX1.symm, hXw⟩, fun _ => sg_F hwj hXw hE9.1 hE9.2 hf_28 hf_29⟩))
              · exact absurd c_15 c_19
            · have k_30 : ¬ (n ≤ kj) := fun h9 => c_17 ((he_cle (a := n) (b := kj) rfl rfl (by omega) (by omega)).mpr h9)
              refine lv_aload_n hx hb dX11_siege_60 rfl (lv_at hl 0 rfl) ?_
              refine he_cv (wc := ([(oX11 m0 0 0 (nI n) pl (nI kj) fj fg (nI cj) fd rfm rt_ to_ rw_ wa ct rk rb cn br sm as_ go sh_ ir oa ob th ig sp_ ki tg of_ kp sf rs), (aI g fd 500 fb), (aI g rt_ 25 rj), (aM g rw_ 6 (he_ro 6 r1))] ++ (he_pl g L ln Mj))) (wr := [(aI g to_ 25 tf), (aI g sm 25 sf0), (aM g wa 6 (he_ro 6 r2)), (aM g sh_ 120 (he_ro 120 r6)), (aM g ki 4 (he_ro 4 r7)), (aM g of_ 2 (he_ro 2 r9))]) (va_runV (As := []) (rest := []) ⟨hx, hb, hml, hown, hts⟩ (q_X11_clause l g m0 fd rfm rt_ to_ rw_ wa rk rb cn br sm as_ go sh_ ki tg of_ kp rs 0 pl ct ir oa ob th ig sp_ sf 0 n kj fg cj fb rj wj L ln Mj r1 T fj (by omega) hkj c_15 (by first | assumption | decide | omega) hbl (by first | assumption | decide | omega) hrj hwj hcj H.size) (cwV 0 hts gX11_siege_X11_clause rfl rfl rfl (by decide +kernel) ⟨Nat.le_of_ble_eq_true rfl, Nat.le_of_ble_eq_true rfl⟩) (he_preV (wc := ([(oX11 m0 0 0 (nI n) pl (nI kj) fj fg (nI cj) fd rfm rt_ to_ rw_ wa ct rk rb cn br sm as_ go sh_ ir oa ob th ig sp_ ki tg of_ kp sf rs), (aI g fd 500 fb), (aI g rt_ 25 rj), (aM g rw_ 6 (he_ro 6 r1))] ++ (he_pl g L ln Mj))) hK hP hD hS hA hE (he_is [0, 1, 2, 5] [(oX11 m0 0 0 (nI n) pl (nI kj) fj fg (nI cj) fd rfm rt_ to_ rw_ wa ct rk rb cn br sm as_ go sh_ ir oa ob th ig sp_ ki tg of_ kp sf rs), (aI g fd 500 fb), (aI g rt_ 25 rj), (aI g to_ 25 tf), (aI g sm 25 sf0), (aM g rw_ 6 (he_ro 6 r1)), (aM g wa 6 (he_ro 6 r2)), (aM g sh_ 120 (he_ro 120 r6)), (aM g ki 4 (he_ro 4 r7)), (aM g of_ 2 (he_ro 2 r9))] (he_pl g L ln Mj)) (he_ixP rfl) (he_ndP rfl rfl) 0 rfl rfl) rfl rfl hl.1 rfl (lv_room (Nat.le_of_ble_eq_true rfl)) dX11_siege_61 ⟨(Nat.le_of_ble_eq_true rfl), (Nat.le_of_ble_eq_true rfl)⟩) hP hD hS hA (he_is [0, 1, 2, 5] [(oX11 m0 0 0 (nI n) pl (nI kj) fj fg (nI cj) fd rfm rt_ to_ rw_ wa ct rk rb cn br sm as_ go sh_ ir oa ob th ig sp_ ki tg of_ kp sf rs), (aI g fd 500 fb), (aI g rt_ 25 rj), (aI g to_ 25 tf), (aI g sm 25 sf0), (aM g rw_ 6 (he_ro 6 r1)), (aM g wa 6 (he_ro 6 r2)), (aM g sh_ 120 (he_ro 120 r6)), (aM g ki 4 (he_ro 4 r7)), (aM g of_ 2 (he_ro 2 r9))] (he_pl g L ln Mj)) [3, 4, 6, 7, 8, 9] (he_ixP rfl) rfl rfl (he_disP (by decide) rfl) (fun u_32 H locs h_33 hP hD hS => ?_)
              obtain ⟨k2_34, fb2_35, fw2_36, cs2_37, w2_38, rt2_39, Mu_40⟩ := u_32
              try dsimp only at h_33
              obtain ⟨hf_41, hf_42, hf_43, hf_44, hf_45, hf_46⟩ := h_33
              have hP : va_P g.1 vwCl ([(aI g to_ 25 tf), (aI g sm 25 sf0), (aM g wa 6 (he_ro 6 r2)), (aM g sh_ 120 (he_ro 120 r6)), (aM g ki 4 (he_ro 4 r7)), (aM g of_ 2 (he_ro 2 r9)), (oX11 m0 0 0 (nI n) pl (nI k2_34) fb2_35 fw2_36 (nI cs2_37) fd rfm rt_ to_ rw_ wa ct rk rb cn br sm as_ go sh_ ir oa ob th ig sp_ ki tg of_ kp sf rs), (aI g fd 500 fb), (aI g rt_ 25 rt2_39), (aM g rw_ 6 (he_ro 6 r1))] ++ he_pl g L ln Mu_40) H := hP
              have hD : va_D A ([(aI g to_ 25 tf), (aI g sm 25 sf0), (aM g wa 6 (he_ro 6 r2)), (aM g sh_ 120 (he_ro 120 r6)), (aM g ki 4 (he_ro 4 r7)), (aM g of_ 2 (he_ro 2 r9)), (oX11 m0 0 0 (nI n) pl (nI k2_34) fb2_35 fw2_36 (nI cs2_37) fd rfm rt_ to_ rw_ wa ct rk rb cn br sm as_ go sh_ ir oa ob th ig sp_ ki tg of_ kp sf rs), (aI g fd 500 fb), (aI g rt_ 25 rt2_39), (aM g rw_ 6 (he_ro 6 r1))] ++ he_pl g L ln Mu_40) := hD
              have hD3 := sg_D (by omega) hbl hg0 hX1 hXw hcj hf_41 hf_42
              refine lv_aload_n hx hb dX11_siege_64 rfl (lv_at hl 0 rfl) ?_
              refine he_cv (wc := [(oX11 m0 0 0 (nI n) pl (nI k2_34) fb2_35 fw2_36 (nI cs2_37) fd rfm rt_ to_ rw_ wa ct rk rb cn br sm as_ go sh_ ir oa ob th ig sp_ ki tg of_ kp sf rs), (aI g fd 500 fb)]) (wr := ([(aI g to_ 25 tf), (aI g sm 25 sf0), (aM g wa 6 (he_ro 6 r2)), (aM g sh_ 120 (he_ro 120 r6)), (aM g ki 4 (he_ro 4 r7)), (aM g of_ 2 (he_ro 2 r9)), (aI g rt_ 25 rt2_39), (aM g rw_ 6 (he_ro 6 r1))] ++ (he_pl g L ln Mu_40))) (va_runV (As := []) (rest := []) ⟨hx, hb, hml, hown, hts⟩ (q_X11_blanks l g m0 fd rfm rt_ to_ rw_ wa rk rb cn br sm as_ go sh_ ki tg of_ kp rs 0 pl (nI cs2_37) ct ir oa ob th ig sp_ sf 0 n k2_34 fb2_35 fw2_36 fb T (by omega) hf_41 (by first | assumption | decide | omega) H.size) (cwV 0 hts gX11_siege_X11_blanks rfl rfl rfl (by decide +kernel) ⟨Nat.le_of_ble_eq_true rfl, Nat.le_of_ble_eq_true rfl⟩) (he_preV (wc := [(oX11 m0 0 0 (nI n) pl (nI k2_34) fb2_35 fw2_36 (nI cs2_37) fd rfm rt_ to_ rw_ wa ct rk rb cn br sm as_ go sh_ ir oa ob th ig sp_ ki tg of_ kp sf rs), (aI g fd 500 fb)]) hK hP hD hS hA hE [6, 7] rfl rfl 6 rfl rfl) rfl rfl hl.1 rfl (lv_room (Nat.le_of_ble_eq_true rfl)) dX11_siege_65 ⟨(Nat.le_of_ble_eq_true rfl), (Nat.le_of_ble_eq_true rfl)⟩) hP hD hS hA [6, 7] (he_is [0, 1, 2, 3, 4, 5, 8, 9] [(aI g to_ 25 tf), (aI g sm 25 sf0), (aM g wa 6 (he_ro 6 r2)), (aM g sh_ 120 (he_ro 120 r6)), (aM g ki 4 (he_ro 4 r7)), (aM g of_ 2 (he_ro 2 r9)), (oX11 m0 0 0 (nI n) pl (nI k2_34) fb2_35 fw2_36 (nI cs2_37) fd rfm rt_ to_ rw_ wa ct rk rb cn br sm as_ go sh_ ir oa ob th ig sp_ ki tg of_ kp sf rs), (aI g fd 500 fb), (aI g rt_ 25 rt2_39), (aM g rw_ 6 (he_ro 6 r1))] (he_pl g L ln Mu_40)) rfl (he_ixP rfl) (he_ndP rfl rfl) (he_disN (by decide) rfl) (fun u_48 H locs h_49 hP hD hS => ?_)
              have hP := va_P.swap hP
              have hD := va_D.swap hD
              have hP : va_P g.1 vwCl ([(aI g to_ 25 tf), (aI g sm 25 sf0), (aM g wa 6 (he_ro 6 r2)), (aM g sh_ 120 (he_ro 120 r6)), (aM g ki 4 (he_ro 4 r7)), (aM g of_ 2 (he_ro 2 r9)), (aI g rt_ 25 rt2_39), (aM g rw_ 6 (he_ro 6 r1)), (oX11 m0 0 0 (nI n) pl (nI (rn isBl T n k2_34)) fb2_35 fw2_36 (nI cs2_37) fd rfm rt_ to_ rw_ wa ct rk rb cn br sm as_ go sh_ ir oa ob th ig sp_ ki tg of_ kp sf rs), (aI g fd 500 fb)] ++ he_pl g L ln Mu_40) H := hP
              have hD : va_D A ([(aI g to_ 25 tf), (aI g sm 25 sf0), (aM g wa 6 (he_ro 6 r2)), (aM g sh_ 120 (he_ro 120 r6)), (aM g ki 4 (he_ro 4 r7)), (aM g of_ 2 (he_ro 2 r9)), (aI g rt_ 25 rt2_39), (aM g rw_ 6 (he_ro 6 r1)), (oX11 m0 0 0 (nI n) pl (nI (rn isBl T n k2_34)) fb2_35 fw2_36 (nI cs2_37) fd rfm rt_ to_ rw_ wa ct rk rb cn br sm as_ go sh_ ir oa ob th ig sp_ ki tg of_ kp sf rs), (aI g fd 500 fb)] ++ he_pl g L ln Mu_40) := hD
              refine lv_goto (tgt := 42) hx hb dX11_siege_68 (by decide) ?_
              have hP := he_Psub (X := [(aI g to_ 25 tf), (aI g sm 25 sf0), (aM g wa 6 (he_ro 6 r2)), (aM g sh_ 120 (he_ro 120 r6)), (aM g ki 4 (he_ro 4 r7)), (aM g of_ 2 (he_ro 2 r9)), (aI g rt_ 25 rt2_39), (aM g rw_ 6 (he_ro 6 r1)), (oX11 m0 0 0 (nI n) pl (nI (rn isBl T n k2_34)) fb2_35 fw2_36 (nI cs2_37) fd rfm rt_ to_ rw_ wa ct rk rb cn br sm as_ go sh_ ir oa ob th ig sp_ ki tg of_ kp sf rs), (aI g fd 500 fb)]) (X2 := [(oX11 m0 0 0 (nI n) pl (nI (rn isBl T n k2_34)) fb2_35 fw2_36 (nI cs2_37) fd rfm rt_ to_ rw_ wa ct rk rb cn br sm as_ go sh_ ir oa ob th ig sp_ ki tg of_ kp sf rs), (aI g fd 500 fb), (aI g rt_ 25 rt2_39), (aI g to_ 25 tf), (aI g sm 25 sf0), (aM g rw_ 6 (he_ro 6 r1)), (aM g wa 6 (he_ro 6 r2)), (aM g sh_ 120 (he_ro 120 r6)), (aM g ki 4 (he_ro 4 r7)), (aM g of_ 2 (he_ro 2 r9))]) (P := (he_pl g L ln Mu_40)) hP [8, 9, 6, 0, 1, 7, 2, 3, 4, 5] rfl
              have hD := he_Dsub (X := [(aI g to_ 25 tf), (aI g sm 25 sf0), (aM g wa 6 (he_ro 6 r2)), (aM g sh_ 120 (he_ro 120 r6)), (aM g ki 4 (he_ro 4 r7)), (aM g of_ 2 (he_ro 2 r9)), (aI g rt_ 25 rt2_39), (aM g rw_ 6 (he_ro 6 r1)), (oX11 m0 0 0 (nI n) pl (nI (rn isBl T n k2_34)) fb2_35 fw2_36 (nI cs2_37) fd rfm rt_ to_ rw_ wa ct rk rb cn br sm as_ go sh_ ir oa ob th ig sp_ ki tg of_ kp sf rs), (aI g fd 500 fb)]) (X2 := [(oX11 m0 0 0 (nI n) pl (nI (rn isBl T n k2_34)) fb2_35 fw2_36 (nI cs2_37) fd rfm rt_ to_ rw_ wa ct rk rb cn br sm as_ go sh_ ir oa ob th ig sp_ ki tg of_ kp sf rs), (aI g fd 500 fb), (aI g rt_ 25 rt2_39), (aI g to_ 25 tf), (aI g sm 25 sf0), (aM g rw_ 6 (he_ro 6 r1)), (aM g wa 6 (he_ro 6 r2)), (aM g sh_ 120 (he_ro 120 r6)), (aM g ki 4 (he_ro 4 r7)), (aM g of_ 2 (he_ro 2 r9))]) (P := (he_pl g L ln Mu_40)) hD [8, 9, 6, 0, 1, 7, 2, 3, 4, 5] rfl rfl rfl
              exact ih42 (rn isBl T n k2_34) fb2_35 fw2_36 cs2_37 w2_38 rt2_39 Mu_40 (lp_meas2 c_15 hD3.2 hf_46 hcj hm9) (rn_le hf_41) hf_46 hf_43 hf_44 (mEx_tr hmx hf_45) hD3.1 (fun h9 => sg_E (by omega) hbl J_r1 hf_43 hXw (hEn c_15).1 (hEn c_15).2 hcj hf_41 hf_42 h9) _ _ _ hP hD hS (lv_sub hl [0, 1] rfl)
      have hP := he_Psub (X := [(aI g to_ 25 tf), (aI g sm 25 sf0), (aM g rw_ 6 (he_ro 6 r1)), (aM g wa 6 (he_ro 6 r2)), (aM g sh_ 120 (he_ro 120 r6)), (aM g ki 4 (he_ro 4 r7)), (aM g of_ 2 (he_ro 2 r9)), (aI g fd 500 fb), (oX11 m0 0 0 (nI n) pl (nI (rn isBl T n 0)) 0 (-1) 0 fd rfm rt_ to_ rw_ wa ct rk rb cn br sm as_ go sh_ ir oa ob th ig sp_ ki tg of_ kp sf rs), (aI g rt_ 25 (tnF f0))]) (X2 := [(oX11 m0 0 0 (nI n) pl (nI (rn isBl T n 0)) 0 (-1) 0 fd rfm rt_ to_ rw_ wa ct rk rb cn br sm as_ go sh_ ir oa ob th ig sp_ ki tg of_ kp sf rs), (aI g fd 500 fb), (aI g rt_ 25 (tnF f0)), (aI g to_ 25 tf), (aI g sm 25 sf0), (aM g rw_ 6 (he_ro 6 r1)), (aM g wa 6 (he_ro 6 r2)), (aM g sh_ 120 (he_ro 120 r6)), (aM g ki 4 (he_ro 4 r7)), (aM g of_ 2 (he_ro 2 r9))]) (P := (he_pl g L ln M)) hP [8, 7, 9, 0, 1, 2, 3, 4, 5, 6] rfl
      have hD := he_Dsub (X := [(aI g to_ 25 tf), (aI g sm 25 sf0), (aM g rw_ 6 (he_ro 6 r1)), (aM g wa 6 (he_ro 6 r2)), (aM g sh_ 120 (he_ro 120 r6)), (aM g ki 4 (he_ro 4 r7)), (aM g of_ 2 (he_ro 2 r9)), (aI g fd 500 fb), (oX11 m0 0 0 (nI n) pl (nI (rn isBl T n 0)) 0 (-1) 0 fd rfm rt_ to_ rw_ wa ct rk rb cn br sm as_ go sh_ ir oa ob th ig sp_ ki tg of_ kp sf rs), (aI g rt_ 25 (tnF f0))]) (X2 := [(oX11 m0 0 0 (nI n) pl (nI (rn isBl T n 0)) 0 (-1) 0 fd rfm rt_ to_ rw_ wa ct rk rb cn br sm as_ go sh_ ir oa ob th ig sp_ ki tg of_ kp sf rs), (aI g fd 500 fb), (aI g rt_ 25 (tnF f0)), (aI g to_ 25 tf), (aI g sm 25 sf0), (aM g rw_ 6 (he_ro 6 r1)), (aM g wa 6 (he_ro 6 r2)), (aM g sh_ 120 (he_ro 120 r6)), (aM g ki 4 (he_ro 4 r7)), (aM g of_ 2 (he_ro 2 r9))]) (P := (he_pl g L ln M)) hD [8, 7, 9, 0, 1, 2, 3, 4, 5, 6] rfl rfl rfl
      exact loop42 (((if 0 = 0 then 61 - 0 else 0)) + 1) (rn isBl T n 0) 0 (-1) 0 0 (tnF f0) M (Nat.lt_succ_self _) (rn_le (Nat.zero_le _)) (by decide) (by decide) (tn_0 _) (mEx_refl _ _ _) (Or.inl ⟨rfl, rfl, rn_id isBl (Nat.zero_le _), by rw [tx_b (Nat.zero_le _)], by rw [tx_b (Nat.zero_le _)]⟩) (fun _ => by rw [tx_b (Nat.zero_le _)]; exact ⟨rfl, fun i hi => ⟨fdT_cg _ 0 _ _ (fun k9 h9 => absurd h9 (Nat.not_lt_zero k9)) i hi, fdM_cg _ 0 _ _ (fun k9 h9 => absurd h9 (Nat.not_lt_zero k9)) i hi⟩⟩) _ _ _ hP hD hS (lv_sub hl [0, 1] rfl)
    · exact absurd (by decide) c_8
  · exact absurd c_4 (by decide)
set_option maxHeartbeats 4000000 in
set_option maxRecDepth 100000 in
theorem r_X11_contract (l : Launch) (g : he_G) (m0 : Nat) (fd : Nat) (rfm : Nat) (rt_ : Nat) (to_ : Nat) (rw_ : Nat) (wa : Nat) (rk : Nat) (rb : Nat) (cn : Nat) (br : Nat) (sm : Nat) (as_ : Nat) (go : Nat) (sh_ : Nat) (ki : Nat) (tg : Nat) (of_ : Nat) (kp : Nat) (rs : Nat) (sz_ : Int32) (pl : Int32) (at_ : Int32) (fa : Int32) (fw : Int32) (cs : Int32) (ir : Int32) (oa : Int32) (ob : Int32) (th : Int32) (ig : Int32) (sp_ : Int32) (sf : Int32) (tw : Int32) (ta : Nat) (nt : Nat) (n : Nat) (fb : Nat → Int32) (tl : Nat → Int32) (rk_ : Nat → Int32) (rb_ : Nat → Int32) (w : Nat) (L : List Nat) (ln : Nat → Nat) (M : Nat → Nat → Int32) (r3 : Nat → Nat) (r4 : Nat → Nat) (T : Nat → Nat) (hta : ta ≤ 500) (hnt : n ≤ ta) (hn2 : n ≤ 200) (hct : nt ≤ 6) (htl : tl 0 = nI w) (hw6 : w ≤ 6) (F_r3 : ∀ i, i < 7 → r3 i ∈ L ∧ ln (r3 i) = 7 ∧ True) (F_r4 : ∀ i, i < 7 → r4 i ∈ L ∧ ln (r4 i) = 36 ∧ True) (D_r3_r4 : ∀ i j, i < 7 → j < 7 → r3 i ≠ r4 j) (hF : ∀ j, j < n → T j < 256 ∧ fb j = nI (T j)) : he_I l yX11_contract wsX11_contract 5 112 0 0 g [.ref m0, .int (nI n)] ([(oX11 m0 tw (nI ta) sz_ pl at_ fa fw cs fd rfm rt_ to_ rw_ wa (nI nt) rk rb cn br sm as_ go sh_ ir oa ob th ig sp_ ki tg of_ kp sf rs), (aI g fd 500 fb), (aI g to_ 25 tl), (aI g rk 7 rk_), (aI g rb 36 rb_), (aM g cn 7 (he_ro 7 r3)), (aM g br 7 (he_ro 7 r4))] ++ he_pl g L ln M) (fun (r : Int32) (u : Nat × Nat × Int32 × Int32 × Int32 × Int32 × (Nat → Int32) × (Nat → Int32) × (Nat → Nat → Int32)) => ((u.1 = nt ∧ u.2.2.2.2.2.2.2.2 = M ∧ ((nt = 6 ∧ r = -1) ∨ (nt < 6 ∧ ¬ u.2.2.1 = 0 ∧ r = u.2.2.1 - 10))) ∨ (nt < 6 ∧ u.1 = nt + 1 ∧ cOk (u.2.2.2.2.2.2.2.2 (r3 nt)) ∧ bOk (u.2.2.2.2.2.2.2.2 (r4 nt)) ∧ (∀ a, a ≠ r3 nt → a ≠ r4 nt → u.2.2.2.2.2.2.2.2 a = M a) ∧ u.2.2.1 = 0 ∧ r = nI nt)) ∧ (nt < 6 → (u.2.2.1 = faC (txP T n wl5 (bd5 w) (fun b _ => fl5 b) 21 0 0 0).1 ∧ u.2.2.2.1 = faP (txP T n wl5 (bd5 w) (fun b _ => fl5 b) 21 0 0 0).1 ∧ u.2.2.2.2.2.1 = faP (txP T n wl5 (bd5 w) (fun b _ => fl5 b) 21 0 0 0).1)) ∧ (nt = 6 → u.2.2.2.2.2.1 = -1) ∧ (u.2.2.1 = 0 → nt < 6 → conR (u.2.2.2.2.2.2.2.2 (r3 nt)) (u.2.2.2.2.2.2.2.2 (r4 nt)) (ctC (txP T n wl5 (bd5 w) (fun b _ => fl5 b) 21 0 0 0).2) (ctB (txP T n wl5 (bd5 w) (fun b _ => fl5 b) 21 0 0 0).2))) (fun (u : Nat × Nat × Int32 × Int32 × Int32 × Int32 × (Nat → Int32) × (Nat → Int32) × (Nat → Nat → Int32)) => [(oX11 m0 0 0 (nI n) u.2.2.2.2.2.1 (nI u.2.1) u.2.2.1 u.2.2.2.1 u.2.2.2.2.1 fd rfm rt_ to_ rw_ wa (nI u.1) rk rb cn br sm as_ go sh_ ir oa ob th ig sp_ ki tg of_ kp sf rs), (aI g fd 500 fb), (aI g to_ 25 tl), (aI g rk 7 u.2.2.2.2.2.2.1), (aI g rb 36 u.2.2.2.2.2.2.2.1), (aM g cn 7 (he_ro 7 r3)), (aM g br 7 (he_ro 7 r4))] ++ he_pl g L ln u.2.2.2.2.2.2.2.2) := by
  refine he_begin (l := l) (g := g) (y := yX11_contract) (wl := wsX11_contract) (fr := 5) (lo := 112) (mc := 0) (ms := 0) (av := [.ref m0, .int (nI n)]) (ws := ([(oX11 m0 tw (nI ta) sz_ pl at_ fa fw cs fd rfm rt_ to_ rw_ wa (nI nt) rk rb cn br sm as_ go sh_ ir oa ob th ig sp_ ki tg of_ kp sf rs), (aI g fd 500 fb), (aI g to_ 25 tl), (aI g rk 7 rk_), (aI g rb 36 rb_), (aM g cn 7 (he_ro 7 r3)), (aM g br 7 (he_ro 7 r4))] ++ he_pl g L ln M)) (cc := cX11_contract) (maxL := 3) (ret := (some .int)) (fun A => va_Qi (fun (r : Int32) (u : Nat × Nat × Int32 × Int32 × Int32 × Int32 × (Nat → Int32) × (Nat → Int32) × (Nat → Nat → Int32)) => ((u.1 = nt ∧ u.2.2.2.2.2.2.2.2 = M ∧ ((nt = 6 ∧ r = -1) ∨ (nt < 6 ∧ ¬ u.2.2.1 = 0 ∧ r = u.2.2.1 - 10))) ∨ (nt < 6 ∧ u.1 = nt + 1 ∧ cOk (u.2.2.2.2.2.2.2.2 (r3 nt)) ∧ bOk (u.2.2.2.2.2.2.2.2 (r4 nt)) ∧ (∀ a, a ≠ r3 nt → a ≠ r4 nt → u.2.2.2.2.2.2.2.2 a = M a) ∧ u.2.2.1 = 0 ∧ r = nI nt)) ∧ (nt < 6 → (u.2.2.1 = faC (txP T n wl5 (bd5 w) (fun b _ => fl5 b) 21 0 0 0).1 ∧ u.2.2.2.1 = faP (txP T n wl5 (bd5 w) (fun b _ => fl5 b) 21 0 0 0).1 ∧ u.2.2.2.2.2.1 = faP (txP T n wl5 (bd5 w) (fun b _ => fl5 b) 21 0 0 0).1)) ∧ (nt = 6 → u.2.2.2.2.2.1 = -1) ∧ (u.2.2.1 = 0 → nt < 6 → conR (u.2.2.2.2.2.2.2.2 (r3 nt)) (u.2.2.2.2.2.2.2.2 (r4 nt)) (ctC (txP T n wl5 (bd5 w) (fun b _ => fl5 b) 21 0 0 0).2) (ctB (txP T n wl5 (bd5 w) (fun b _ => fl5 b) 21 0 0 0).2))) (fun u t => he_post g A ((fun (u : Nat × Nat × Int32 × Int32 × Int32 × Int32 × (Nat → Int32) × (Nat → Int32) × (Nat → Nat → Int32)) => [(oX11 m0 0 0 (nI n) u.2.2.2.2.2.1 (nI u.2.1) u.2.2.1 u.2.2.2.1 u.2.2.2.2.1 fd rfm rt_ to_ rw_ wa (nI u.1) rk rb cn br sm as_ go sh_ ir oa ob th ig sp_ ki tg of_ kp sf rs), (aI g fd 500 fb), (aI g to_ 25 tl), (aI g rk 7 u.2.2.2.2.2.2.1), (aI g rb 36 u.2.2.2.2.2.2.2.1), (aM g cn 7 (he_ro 7 r3)), (aM g br 7 (he_ro 7 r4))] ++ he_pl g L ln u.2.2.2.2.2.2.2.2) u) t) A) (by decide) rfl (Nat.le_of_ble_eq_true rfl) ?_
  intro p e s m args below meth c A ls H locs Q hQ hB
  obtain ⟨hx, hb, hr, hml, hown, hts, hlk, hin, hP, hK, hD, hS, hA, hE, hl⟩ := hB
  have hl : lv_has ls 3 [(0, .ref m0), (1, .int (nI n))] := hl
  have f85 := hts (.fieldLink RX11 85 "HiredEnemyModel" "thrown" "I") (iwoX11_contract (k := 0) rfl)
  have inX11 : ∀ w ∈ wsX110, w ∈ wsX11_contract := innX11_contract_X11
  have f88 := hts (.fieldLink RX11 88 "HiredEnemyModel" "tape" "I") (iwoX11_contract (k := 1) rfl)
  have f9 := hts (.fieldLink RX11 9 "HiredEnemyModel" "place" "I") (iwoX11_contract (k := 2) rfl)
  have f162 := hts (.fieldLink RX11 162 "HiredEnemyModel" "contracts" "I") (iwoX11_contract (k := 3) rfl)
  have f101 := hts (.fieldLink RX11 101 "HiredEnemyModel" "fault" "I") (iwoX11_contract (k := 6) rfl)
  have f104 := hts (.fieldLink RX11 104 "HiredEnemyModel" "faultAt" "I") (iwoX11_contract (k := 9) rfl)
  have f94 := hts (.fieldLink RX11 94 "HiredEnemyModel" "at" "I") (iwoX11_contract (k := 7) rfl)
  have f91 := hts (.fieldLink RX11 91 "HiredEnemyModel" "size" "I") (iwoX11_contract (k := 8) rfl)
  have f34 := hts (.fieldLink RX11 34 "HiredEnemyModel" "readContract" "[I") (iwoX11_contract (k := 4) rfl)
  have f40 := hts (.fieldLink RX11 40 "HiredEnemyModel" "contract" "[[I") (iwoX11_contract (k := 11) rfl)
  have f43 := hts (.fieldLink RX11 43 "HiredEnemyModel" "breach" "[[I") (iwoX11_contract (k := 10) rfl)
  have f37 := hts (.fieldLink RX11 37 "HiredEnemyModel" "readBreach" "[I") (iwoX11_contract (k := 5) rfl)
  refine lv_aload_n hx hb dX11_contract_0 rfl (lv_at hl 0 rfl) ?_
  refine lv_iconst (v := 0) hx hb dX11_contract_1 (by decide) ?_
  refine va_put (v := .int 0) (ty := .int) (T := TX11) (N := 35) hx hb hts inX11 tyX11 tyX11_ok nmX11 hown hK hP hD hS 0 rfl rfl 0 (by decide) f85 (fun _ h9 => h9) rfl (by decide +kernel) rfl rfl (Nat.le_of_ble_eq_true rfl) dX11_contract_2 (fun H locs hP hD hS => ?_)
  have hP : va_P g.1 vwCl ([(oX11 m0 0 (nI ta) sz_ pl at_ fa fw cs fd rfm rt_ to_ rw_ wa (nI nt) rk rb cn br sm as_ go sh_ ir oa ob th ig sp_ ki tg of_ kp sf rs), (aI g fd 500 fb), (aI g to_ 25 tl), (aI g rk 7 rk_), (aI g rb 36 rb_), (aM g cn 7 (he_ro 7 r3)), (aM g br 7 (he_ro 7 r4))] ++ he_pl g L ln M) H := hP
  have hD : va_D A ([(oX11 m0 0 (nI ta) sz_ pl at_ fa fw cs fd rfm rt_ to_ rw_ wa (nI nt) rk rb cn br sm as_ go sh_ ir oa ob th ig sp_ ki tg of_ kp sf rs), (aI g fd 500 fb), (aI g to_ 25 tl), (aI g rk 7 rk_), (aI g rb 36 rb_), (aM g cn 7 (he_ro 7 r3)), (aM g br 7 (he_ro 7 r4))] ++ he_pl g L ln M) := hD
  refine lv_aload_n hx hb dX11_contract_5 rfl (lv_at hl 0 rfl) ?_
  refine lv_iload_n hx hb dX11_contract_6 rfl (lv_at hl 1 rfl) ?_
  refine lv_iconst (v := 0) hx hb dX11_contract_7 (by decide) ?_
  refine lv_aload_n hx hb dX11_contract_8 rfl (lv_at hl 0 rfl) ?_
  refine va_get (v := .int (nI ta)) (T := TX11) (N := 35) hx hb hts inX11 hown hK hP 0 rfl rfl 1 (by decide) f88 (fun _ h9 => h9) rfl dX11_contract_9 ?_
  refine he_ci (wc := []) (wr := ([(oX11 m0 0 (nI ta) sz_ pl at_ fa fw cs fd rfm rt_ to_ rw_ wa (nI nt) rk rb cn br sm as_ go sh_ ir oa ob th ig sp_ ki tg of_ kp sf rs), (aI g fd 500 fb), (aI g to_ 25 tl), (aI g rk 7 rk_), (aI g rb 36 rb_), (aM g cn 7 (he_ro 7 r3)), (aM g br 7 (he_ro 7 r4))] ++ (he_pl g L ln M))) (va_runS (As := [.int (nI n), .int 0, .int (nI ta)]) (rest := [.ref m0]) ⟨hx, hb, hml, hown, hts⟩ (c_X11_in l g (nI n) 0 (nI ta) H.size) (va_cwS 3 hts gX11_contract_X11_in rfl rfl rfl (by decide +kernel) ⟨Nat.le_of_ble_eq_true rfl, Nat.le_of_ble_eq_true rfl⟩) (he_preS (wc := []) hK hP hD hS hA hE [] rfl rfl) rfl rfl hl.1 rfl (lv_room (Nat.le_of_ble_eq_true rfl)) dX11_contract_12 ⟨(Nat.le_of_ble_eq_true rfl), (Nat.le_of_ble_eq_true rfl)⟩) hP hD hS hA [] (he_is [0, 1, 2, 3, 4, 5, 6] [(oX11 m0 0 (nI ta) sz_ pl at_ fa fw cs fd rfm rt_ to_ rw_ wa (nI nt) rk rb cn br sm as_ go sh_ ir oa ob th ig sp_ ki tg of_ kp sf rs), (aI g fd 500 fb), (aI g to_ 25 tl), (aI g rk 7 rk_), (aI g rb 36 rb_), (aM g cn 7 (he_ro 7 r3)), (aM g br 7 (he_ro 7 r4))] (he_pl g L ln M)) rfl (he_ixP rfl) (he_ndP rfl rfl) (he_disN (by decide) rfl) (fun r_1 u_2 H locs h_3 hP hD hS => ?_)
  have hP := va_P.swap hP
  have hD := va_D.swap hD
  subst h_3
  have hP : va_P g.1 vwCl ([(oX11 m0 0 (nI ta) sz_ pl at_ fa fw cs fd rfm rt_ to_ rw_ wa (nI nt) rk rb cn br sm as_ go sh_ ir oa ob th ig sp_ ki tg of_ kp sf rs), (aI g fd 500 fb), (aI g to_ 25 tl), (aI g rk 7 rk_), (aI g rb 36 rb_), (aM g cn 7 (he_ro 7 r3)), (aM g br 7 (he_ro 7 r4))] ++ he_pl g L ln M) H := hP
  have hD : va_D A ([(oX11 m0 0 (nI ta) sz_ pl at_ fa fw cs fd rfm rt_ to_ rw_ wa (nI nt) rk rb cn br sm as_ go sh_ ir oa ob th ig sp_ ki tg of_ kp sf rs), (aI g fd 500 fb), (aI g to_ 25 tl), (aI g rk 7 rk_), (aI g rb 36 rb_), (aM g cn 7 (he_ro 7 r3)), (aM g br 7 (he_ro 7 r4))] ++ he_pl g L ln M) := hD
  refine he_top (1) (he_within_in (a0 := 0) (B := ta) rfl rfl (by omega) (by omega) (by omega)) ?_
  refine lv_if_eq (tgt := 25) hx hb dX11_contract_15 (by decide) (fun c_4 => ?_) (fun c_4 => ?_)
  · exact absurd c_4 (by decide)
  · refine lv_iload_n hx hb dX11_contract_18 rfl (lv_at hl 1 rfl) ?_
    refine lv_sipush (v := 200) hx hb dX11_contract_19 (by decide) ?_
    refine lv_icmp_le (tgt := 29) hx hb dX11_contract_22 (by decide) (fun c_5 => ?_) (fun c_5 => ?_)
    · refine lv_iconst (v := 0) hx hb dX11_contract_29 (by decide) ?_
      refine lv_iconst (v := 1) hx hb dX11_contract_30 (by decide) ?_
      refine lv_iconst (v := 2) hx hb dX11_contract_31 (by decide) ?_
      refine he_ci (wc := [(oX11 m0 0 (nI ta) sz_ pl at_ fa fw cs fd rfm rt_ to_ rw_ wa (nI nt) rk rb cn br sm as_ go sh_ ir oa ob th ig sp_ ki tg of_ kp sf rs)]) (wr := ([(aI g fd 500 fb), (aI g to_ 25 tl), (aI g rk 7 rk_), (aI g rb 36 rb_), (aM g cn 7 (he_ro 7 r3)), (aM g br 7 (he_ro 7 r4))] ++ (he_pl g L ln M))) (va_runV (As := [.int 0, .int 1, .int 2]) (rest := []) ⟨hx, hb, hml, hown, hts⟩ (c_X11_bad0 l g m0 fd rfm rt_ to_ rw_ wa rk rb cn br sm as_ go sh_ ki tg of_ kp rs (nI ta) sz_ pl at_ fa fw cs (nI nt) ir oa ob th ig sp_ sf 1 2 H.size) (cwV 3 hts gX11_contract_X11_bad rfl rfl rfl (by decide +kernel) ⟨Nat.le_of_ble_eq_true rfl, Nat.le_of_ble_eq_true rfl⟩) (he_preV (wc := [(oX11 m0 0 (nI ta) sz_ pl at_ fa fw cs fd rfm rt_ to_ rw_ wa (nI nt) rk rb cn br sm as_ go sh_ ir oa ob th ig sp_ ki tg of_ kp sf rs)]) hK hP hD hS hA hE [0] rfl rfl 0 rfl rfl) rfl rfl hl.1 rfl (lv_room (Nat.le_of_ble_eq_true rfl)) dX11_contract_32 ⟨(Nat.le_of_ble_eq_true rfl), (Nat.le_of_ble_eq_true rfl)⟩) hP hD hS hA [0] (he_is [1, 2, 3, 4, 5, 6] [(oX11 m0 0 (nI ta) sz_ pl at_ fa fw cs fd rfm rt_ to_ rw_ wa (nI nt) rk rb cn br sm as_ go sh_ ir oa ob th ig sp_ ki tg of_ kp sf rs), (aI g fd 500 fb), (aI g to_ 25 tl), (aI g rk 7 rk_), (aI g rb 36 rb_), (aM g cn 7 (he_ro 7 r3)), (aM g br 7 (he_ro 7 r4))] (he_pl g L ln M)) rfl (he_ixP rfl) (he_ndP rfl rfl) (he_disN (by decide) rfl) (fun r_6 u_7 H locs h_8 hP hD hS => ?_)
      have hP := va_P.swap hP
      have hD := va_D.swap hD
      subst h_8
      have hP : va_P g.1 vwCl ([(aI g fd 500 fb), (aI g to_ 25 tl), (aI g rk 7 rk_), (aI g rb 36 rb_), (aM g cn 7 (he_ro 7 r3)), (aM g br 7 (he_ro 7 r4)), (oX11 m0 0 (nI ta) sz_ pl at_ fa fw cs fd rfm rt_ to_ rw_ wa (nI nt) rk rb cn br sm as_ go sh_ ir oa ob th ig sp_ ki tg of_ kp sf rs)] ++ he_pl g L ln M) H := hP
      have hD : va_D A ([(aI g fd 500 fb), (aI g to_ 25 tl), (aI g rk 7 rk_), (aI g rb 36 rb_), (aM g cn 7 (he_ro 7 r3)), (aM g br 7 (he_ro 7 r4)), (oX11 m0 0 (nI ta) sz_ pl at_ fa fw cs fd rfm rt_ to_ rw_ wa (nI nt) rk rb cn br sm as_ go sh_ ir oa ob th ig sp_ ki tg of_ kp sf rs)] ++ he_pl g L ln M) := hD
      refine lv_if_eq (tgt := 40) hx hb dX11_contract_35 (by decide) (fun c_9 => ?_) (fun c_9 => ?_)
      · refine lv_aload_n hx hb dX11_contract_40 rfl (lv_at hl 0 rfl) ?_
        refine lv_iload_n hx hb dX11_contract_41 rfl (lv_at hl 1 rfl) ?_
        refine he_cv (wc := [(oX11 m0 0 (nI ta) sz_ pl at_ fa fw cs fd rfm rt_ to_ rw_ wa (nI nt) rk rb cn br sm as_ go sh_ ir oa ob th ig sp_ ki tg of_ kp sf rs), (aI g fd 500 fb)]) (wr := ([(aI g to_ 25 tl), (aI g rk 7 rk_), (aI g rb 36 rb_), (aM g cn 7 (he_ro 7 r3)), (aM g br 7 (he_ro 7 r4))] ++ (he_pl g L ln M))) (va_runV (As := [.int (nI n)]) (rest := []) ⟨hx, hb, hml, hown, hts⟩ (q_X11_starts l g m0 fd rfm rt_ to_ rw_ wa rk rb cn br sm as_ go sh_ ki tg of_ kp rs (nI ta) sz_ pl at_ fa fw cs (nI nt) ir oa ob th ig sp_ sf 0 n fb T (by omega) (by first | assumption | decide | omega) H.size) (cwV 1 hts gX11_contract_X11_starts rfl rfl rfl (by decide +kernel) ⟨Nat.le_of_ble_eq_true rfl, Nat.le_of_ble_eq_true rfl⟩) (he_preV (wc := [(oX11 m0 0 (nI ta) sz_ pl at_ fa fw cs fd rfm rt_ to_ rw_ wa (nI nt) rk rb cn br sm as_ go sh_ ir oa ob th ig sp_ ki tg of_ kp sf rs), (aI g fd 500 fb)]) hK hP hD hS hA hE [6, 0] rfl rfl 6 rfl rfl) rfl rfl hl.1 rfl (lv_room (Nat.le_of_ble_eq_true rfl)) dX11_contract_42 ⟨(Nat.le_of_ble_eq_true rfl), (Nat.le_of_ble_eq_true rfl)⟩) hP hD hS hA [6, 0] (he_is [1, 2, 3, 4, 5] [(aI g fd 500 fb), (aI g to_ 25 tl), (aI g rk 7 rk_), (aI g rb 36 rb_), (aM g cn 7 (he_ro 7 r3)), (aM g br 7 (he_ro 7 r4)), (oX11 m0 0 (nI ta) sz_ pl at_ fa fw cs fd rfm rt_ to_ rw_ wa (nI nt) rk rb cn br sm as_ go sh_ ir oa ob th ig sp_ ki tg of_ kp sf rs)] (he_pl g L ln M)) rfl (he_ixP rfl) (he_ndP rfl rfl) (he_disN (by decide) rfl) (fun u_11 H locs h_12 hP hD hS => ?_)
        have hP := va_P.swap hP
        have hD := va_D.swap hD
        have hP : va_P g.1 vwCl ([(aI g to_ 25 tl), (aI g rk 7 rk_), (aI g rb 36 rb_), (aM g cn 7 (he_ro 7 r3)), (aM g br 7 (he_ro 7 r4)), (oX11 m0 0 0 (nI n) pl (nI (rn isBl T n 0)) 0 (-1) 0 fd rfm rt_ to_ rw_ wa (nI nt) rk rb cn br sm as_ go sh_ ir oa ob th ig sp_ ki tg of_ kp sf rs), (aI g fd 500 fb)] ++ he_pl g L ln M) H := hP
        have hD : va_D A ([(aI g to_ 25 tl), (aI g rk 7 rk_), (aI g rb 36 rb_), (aM g cn 7 (he_ro 7 r3)), (aM g br 7 (he_ro 7 r4)), (oX11 m0 0 0 (nI n) pl (nI (rn isBl T n 0)) 0 (-1) 0 fd rfm rt_ to_ rw_ wa (nI nt) rk rb cn br sm as_ go sh_ ir oa ob th ig sp_ ki tg of_ kp sf rs), (aI g fd 500 fb)] ++ he_pl g L ln M) := hD
        refine lv_aload_n hx hb dX11_contract_45 rfl (lv_at hl 0 rfl) ?_
        refine lv_iconst (v := (-1)) hx hb dX11_contract_46 (by decide) ?_
        refine va_put (v := .int (-1)) (ty := .int) (T := TX11) (N := 35) hx hb hts inX11 tyX11 tyX11_ok nmX11 hown hK hP hD hS 5 rfl rfl 3 (by decide) f9 (fun _ h9 => h9) rfl (by decide +kernel) rfl rfl (Nat.le_of_ble_eq_true rfl) dX11_contract_47 (fun H locs hP hD hS => ?_)
        have hP : va_P g.1 vwCl ([(aI g to_ 25 tl), (aI g rk 7 rk_), (aI g rb 36 rb_), (aM g cn 7 (he_ro 7 r3)), (aM g br 7 (he_ro 7 r4)), (oX11 m0 0 0 (nI n) (-1) (nI (rn isBl T n 0)) 0 (-1) 0 fd rfm rt_ to_ rw_ wa (nI nt) rk rb cn br sm as_ go sh_ ir oa ob th ig sp_ ki tg of_ kp sf rs), (aI g fd 500 fb)] ++ he_pl g L ln M) H := hP
        have hD : va_D A ([(aI g to_ 25 tl), (aI g rk 7 rk_), (aI g rb 36 rb_), (aM g cn 7 (he_ro 7 r3)), (aM g br 7 (he_ro 7 r4)), (oX11 m0 0 0 (nI n) (-1) (nI (rn isBl T n 0)) 0 (-1) 0 fd rfm rt_ to_ rw_ wa (nI nt) rk rb cn br sm as_ go sh_ ir oa ob th ig sp_ ki tg of_ kp sf rs), (aI g fd 500 fb)] ++ he_pl g L ln M) := hD
        refine lv_aload_n hx hb dX11_contract_50 rfl (lv_at hl 0 rfl) ?_
        refine va_get (v := .int (nI nt)) (T := TX11) (N := 35) hx hb hts inX11 hown hK hP 5 rfl rfl 14 (by decide) f162 (fun _ h9 => h9) rfl dX11_contract_51 ?_
        refine lv_bipush (v := 6) hx hb dX11_contract_54 (by decide) ?_
        refine lv_icmp_ne (tgt := 61) hx hb dX11_contract_56 (by decide) (fun c_13 => ?_) (fun c_13 => ?_)
        · have k_14 : ¬ (nt = 6) := fun h9 => c_13 ((he_ceq (a := nt) (b := 6) rfl (by decide) (by omega) (by omega)).mpr h9)
          refine lv_iconst (v := 0) hx hb dX11_contract_61 (by decide) ?_
          refine lv_istore_n (lv' := [(2, .int 0), (0, .ref m0), (1, .int (nI n))]) hx hb dX11_contract_62 rfl hl (by decide) rfl (fun ls hl => ?_)
          have loop63 : ∀ (n9 : Nat) (i1 : Nat), 7 - i1 < n9 → (i1 ≤ 7) → ∀ (H : Heap) (locs : List Loc) (ls : Array Slot), va_P g.1 vwCl ([(oX11 m0 0 0 (nI n) (-1) (nI (rn isBl T n 0)) 0 (-1) 0 fd rfm rt_ to_ rw_ wa (nI nt) rk rb cn br sm as_ go sh_ ir oa ob th ig sp_ ki tg of_ kp sf rs), (aI g fd 500 fb), (aI g to_ 25 tl), (aI g rk 7 (flF iniF rk_ i1)), (aI g rb 36 rb_), (aM g cn 7 (he_ro 7 r3)), (aM g br 7 (he_ro 7 r4))] ++ he_pl g L ln M) H → va_D A ([(oX11 m0 0 0 (nI n) (-1) (nI (rn isBl T n 0)) 0 (-1) 0 fd rfm rt_ to_ rw_ wa (nI nt) rk rb cn br sm as_ go sh_ ir oa ob th ig sp_ ki tg of_ kp sf rs), (aI g fd 500 fb), (aI g to_ 25 tl), (aI g rk 7 (flF iniF rk_ i1)), (aI g rb 36 rb_), (aM g cn 7 (he_ro 7 r3)), (aM g br 7 (he_ro 7 r4))] ++ he_pl g L ln M) → va_S A s.heap H locs → lv_has ls 3 [(0, .ref m0), (1, .int (nI n)), (2, .int (nI i1))] → W p l e (he_room 5 112 0 0) s m args below meth c H locs 0 0 Q (F0 m 63 ls []) := by
            intro n9
            induction n9 with
            | zero => intro i1 hm9; exact absurd hm9 (Nat.not_lt_zero _)
            | succ n9 ih63 =>
              intro i1 hm9 hi1 H locs ls hP hD hS hl
              refine lv_iload_n hx hb dX11_contract_63 rfl (lv_at hl 2 rfl) ?_
              refine lv_bipush (v := 7) hx hb dX11_contract_64 (by decide) ?_
              refine lv_icmp_ge (tgt := 111) hx hb dX11_contract_66 (by decide) (fun c_15 => ?_) (fun c_15 => ?_)
              · have k_16 : 7 ≤ i1 := (he_cle (a := 7) (b := i1) (by decide) rfl (by omega) (by omega)).mp c_15
                obtain rfl : i1 = 7 := by omega
                refine lv_iconst (v := 0) hx hb dX11_contract_111 (by decide) ?_
                refine lv_istore_n (lv' := [(2, .int 0), (0, .ref m0), (1, .int (nI n))]) hx hb dX11_contract_112 rfl hl (by decide) rfl (fun ls hl => ?_)
                have loop113 : ∀ (n9 : Nat) (i2 : Nat), 36 - i2 < n9 → (i2 ≤ 36) → ∀ (H : Heap) (locs : List Loc) (ls : Array Slot), va_P g.1 vwCl ([(oX11 m0 0 0 (nI n) (-1) (nI (rn isBl T n 0)) 0 (-1) 0 fd rfm rt_ to_ rw_ wa (nI nt) rk rb cn br sm as_ go sh_ ir oa ob th ig sp_ ki tg of_ kp sf rs), (aI g fd 500 fb), (aI g to_ 25 tl), (aI g rk 7 (flF iniF rk_ 7)), (aI g rb 36 (flF (fun _ => -1) rb_ i2)), (aM g cn 7 (he_ro 7 r3)), (aM g br 7 (he_ro 7 r4))] ++ he_pl g L ln M) H → va_D A ([(oX11 m0 0 0 (nI n) (-1) (nI (rn isBl T n 0)) 0 (-1) 0 fd rfm rt_ to_ rw_ wa (nI nt) rk rb cn br sm as_ go sh_ ir oa ob th ig sp_ ki tg of_ kp sf rs), (aI g fd 500 fb), (aI g to_ 25 tl), (aI g rk 7 (flF iniF rk_ 7)), (aI g rb 36 (flF (fun _ => -1) rb_ i2)), (aM g cn 7 (he_ro 7 r3)), (aM g br 7 (he_ro 7 r4))] ++ he_pl g L ln M) → va_S A s.heap H locs → lv_has ls 3 [(0, .ref m0), (1, .int (nI n)), (2, .int (nI i2))] → W p l e (he_room 5 112 0 0) s m args below meth c H locs 0 0 Q (F0 m 113 ls []) := by
                  intro n9
                  induction n9 with
                  | zero => intro i2 hm9; exact absurd hm9 (Nat.not_lt_zero _)
                  | succ n9 ih113 =>
                    intro i2 hm9 hi2 H locs ls hP hD hS hl
                    refine lv_iload_n hx hb dX11_contract_113 rfl (lv_at hl 2 rfl) ?_
                    refine lv_bipush (v := 36) hx hb dX11_contract_114 (by decide) ?_
                    refine lv_icmp_ge (tgt := 132) hx hb dX11_contract_116 (by decide) (fun c_17 => ?_) (fun c_17 => ?_)
                    · have k_18 : 36 ≤ i2 := (he_cle (a := 36) (b := i2) (by decide) rfl (by omega) (by omega)).mp c_17
                      obtain rfl : i2 = 36 := by omega
                      have loop132 : ∀ (n9 : Nat) (kj : Nat) (fj : Int32) (fg : Int32) (cj : Nat) (rkj : Nat → Int32) (rbj : Nat → Int32), (if fj = 0 then 21 - cj else 0) < n9 → (kj ≤ n) → (cj ≤ 20) → ((∃ wj : Nat, fj = 0 ∧ fg = -1 ∧ rn isBl T n kj = kj ∧ (txP T n wl5 (bd5 w) (fun b _ => fl5 b) (21 - cj) cj wj kj).1 = (txP T n wl5 (bd5 w) (fun b _ => fl5 b) 21 0 0 0).1 ∧ fdRl (txP T n wl5 (bd5 w) (fun b _ => fl5 b) (21 - cj) cj wj kj).2 rkj = fdRl (txP T n wl5 (bd5 w) (fun b _ => fl5 b) 21 0 0 0).2 (flF iniF rk_ 7) ∧ fdB (txP T n wl5 (bd5 w) (fun b _ => fl5 b) (21 - cj) cj wj kj).2 rbj = fdB (txP T n wl5 (bd5 w) (fun b _ => fl5 b) 21 0 0 0).2 (flF (fun _ => -1) rb_ 36)) ∨ (¬ fj = 0 ∧ fj = faC (txP T n wl5 (bd5 w) (fun b _ => fl5 b) 21 0 0 0).1 ∧ fg = faP (txP T n wl5 (bd5 w) (fun b _ => fl5 b) 21 0 0 0).1)) → ∀ (H : Heap) (locs : List Loc) (ls : Array Slot), va_P g.1 vwCl ([(oX11 m0 0 0 (nI n) (-1) (nI kj) fj fg (nI cj) fd rfm rt_ to_ rw_ wa (nI nt) rk rb cn br sm as_ go sh_ ir oa ob th ig sp_ ki tg of_ kp sf rs), (aI g fd 500 fb), (aI g to_ 25 tl), (aI g rk 7 rkj), (aI g rb 36 rbj), (aM g cn 7 (he_ro 7 r3)), (aM g br 7 (he_ro 7 r4))] ++ he_pl g L ln M) H → va_D A ([(oX11 m0 0 0 (nI n) (-1) (nI kj) fj fg (nI cj) fd rfm rt_ to_ rw_ wa (nI nt) rk rb cn br sm as_ go sh_ ir oa ob th ig sp_ ki tg of_ kp sf rs), (aI g fd 500 fb), (aI g to_ 25 tl), (aI g rk 7 rkj), (aI g rb 36 rbj), (aM g cn 7 (he_ro 7 r3)), (aM g br 7 (he_ro 7 r4))] ++ he_pl g L ln M) → va_S A s.heap H locs → lv_has ls 3 [(0, .ref m0), (1, .int (nI n))] → W p l e (he_room 5 112 0 0) s m args below meth c H locs 0 0 Q (F0 m 132 ls []) := by
                        intro n9
                        induction n9 with
                        | zero => intro kj fj fg cj rkj rbj hm9; exact absurd hm9 (Nat.not_lt_zero _)
                        | succ n9 ih132 =>
                          intro kj fj fg cj rkj rbj hm9 hkj hcj hDj H locs ls hP hD hS hl
                          refine lv_aload_n hx hb dX11_contract_132 rfl (lv_at hl 0 rfl) ?_
                          refine va_get (v := .int fj) (T := TX11) (N := 35) hx hb hts inX11 hown hK hP 0 rfl rfl 5 (by decide) f101 (fun _ h9 => h9) rfl dX11_contract_133 ?_
                          refine lv_if_ne (tgt := 161) hx hb dX11_contract_136 (by decide) (fun c_19 => ?_) (fun c_19 => ?_)
                          · have hD2 := hDj.resolve_left (fun h9 => by obtain ⟨_, h8, _⟩ := h9; exact c_19 h8)
                            refine lv_aload_n hx hb dX11_contract_161 rfl (lv_at hl 0 rfl) ?_
                            refine lv_aload_n hx hb dX11_contract_162 rfl (lv_at hl 0 rfl) ?_
                            refine va_get (v := .int fg) (T := TX11) (N := 35) hx hb hts inX11 hown hK hP 0 rfl rfl 6 (by decide) f104 (fun _ h9 => h9) rfl dX11_contract_163 ?_
                            refine va_put (v := .int fg) (ty := .int) (T := TX11) (N := 35) hx hb hts inX11 tyX11 tyX11_ok nmX11 hown hK hP hD hS 0 rfl rfl 3 (by decide) f9 (fun _ h9 => h9) rfl (by decide +kernel) rfl rfl (Nat.le_of_ble_eq_true rfl) dX11_contract_166 (fun H locs hP hD hS => ?_)
                            have hP : va_P g.1 vwCl ([(oX11 m0 0 0 (nI n) fg (nI kj) fj fg (nI cj) fd rfm rt_ to_ rw_ wa (nI nt) rk rb cn br sm as_ go sh_ ir oa ob th ig sp_ ki tg of_ kp sf rs), (aI g fd 500 fb), (aI g to_ 25 tl), (aI g rk 7 rkj), (aI g rb 36 rbj), (aM g cn 7 (he_ro 7 r3)), (aM g br 7 (he_ro 7 r4))] ++ he_pl g L ln M) H := hP
                            have hD : va_D A ([(oX11 m0 0 0 (nI n) fg (nI kj) fj fg (nI cj) fd rfm rt_ to_ rw_ wa (nI nt) rk rb cn br sm as_ go sh_ ir oa ob th ig sp_ ki tg of_ kp sf rs), (aI g fd 500 fb), (aI g to_ 25 tl), (aI g rk 7 rkj), (aI g rb 36 rbj), (aM g cn 7 (he_ro 7 r3)), (aM g br 7 (he_ro 7 r4))] ++ he_pl g L ln M) := hD
                            refine lv_aload_n hx hb dX11_contract_169 rfl (lv_at hl 0 rfl) ?_
                            refine va_get (v := .int fj) (T := TX11) (N := 35) hx hb hts inX11 hown hK hP 0 rfl rfl 5 (by decide) f101 (fun _ h9 => h9) rfl dX11_contract_170 ?_
                            refine lv_if_eq (tgt := 184) hx hb dX11_contract_173 (by decide) (fun c_20 => ?_) (fun c_20 => ?_)
                            · exact absurd c_20 c_19
                            · refine lv_aload_n hx hb dX11_contract_176 rfl (lv_at hl 0 rfl) ?_
                              refine va_get (v := .int fj) (T := TX11) (N := 35) hx hb hts inX11 hown hK hP 0 rfl rfl 5 (by decide) f101 (fun _ h9 => h9) rfl dX11_contract_177 ?_
                              refine lv_bipush (v := 10) hx hb dX11_contract_180 (by decide) ?_
                              refine lv_isub hx hb dX11_contract_182 ?_
                              exact he_ri hQ hx hb hr hlk hP hD hS dX11_contract_183 (Nat.le_of_ble_eq_true rfl) (Nat.le_of_ble_eq_true rfl) ((nt, kj, fj, fg, nI cj, fg, rkj, rbj, M)) (rfl) (by (try dsimp only); exact ⟨Or.inl ⟨rfl, rfl, Or.inr ⟨by (try dsimp only); omega, c_20, rfl⟩⟩, fun _ => ⟨hD2.2.1, hD2.2.2, hD2.2.2⟩, fun h9 => absurd h9 (by (try dsimp only); omega), fun h9 => absurd h9 c_20⟩)
                          · obtain ⟨wj, _, hg0, hbl, hX1, hXd, hXb⟩ := hDj.resolve_right (fun h9 => h9.1 c_19)
                            refine lv_aload_n hx hb dX11_contract_139 rfl (lv_at hl 0 rfl) ?_
                            refine va_get (v := .int (nI kj)) (T := TX11) (N := 35) hx hb hts inX11 hown hK hP 0 rfl rfl 4 (by decide) f94 (fun _ h9 => h9) rfl dX11_contract_140 ?_
                            refine lv_aload_n hx hb dX11_contract_143 rfl (lv_at hl 0 rfl) ?_
                            refine va_get (v := .int (nI n)) (T := TX11) (N := 35) hx hb hts inX11 hown hK hP 0 rfl rfl 2 (by decide) f91 (fun _ h9 => h9) rfl dX11_contract_144 ?_
                            refine lv_icmp_ge (tgt := 161) hx hb dX11_contract_147 (by decide) (fun c_21 => ?_) (fun c_21 => ?_)
                            · have k_22 : n ≤ kj := (he_cle (a := n) (b := kj) rfl rfl (by omega) (by omega)).mp c_21
                              refine lv_aload_n hx hb dX11_contract_161 rfl (lv_at hl 0 rfl) ?_
                              refine lv_aload_n hx hb dX11_contract_162 rfl (lv_at hl 0 rfl) ?_
                              refine va_get (v := .int fg) (T := TX11) (N := 35) hx hb hts inX11 hown hK hP 0 rfl rfl 6 (by decide) f104 (fun _ h9 => h9) rfl dX11_contract_163 ?_
                              refine va_put (v := .int fg) (ty := .int) (T := TX11) (N := 35) hx hb hts inX11 tyX11 tyX11_ok nmX11 hown hK hP hD hS 0 rfl rfl 3 (by decide) f9 (fun _ h9 => h9) rfl (by decide +kernel) rfl rfl (Nat.le_of_ble_eq_true rfl) dX11_contract_166 (fun H locs hP hD hS => ?_)
                              have hP : va_P g.1 vwCl ([(oX11 m0 0 0 (nI n) fg (nI kj) fj fg (nI cj) fd rfm rt_ to_ rw_ wa (nI nt) rk rb cn br sm as_ go sh_ ir oa ob th ig sp_ ki tg of_ kp sf rs), (aI g fd 500 fb), (aI g to_ 25 tl), (aI g rk 7 rkj), (aI g rb 36 rbj), (aM g cn 7 (he_ro 7 r3)), (aM g br 7 (he_ro 7 r4))] ++ he_pl g L ln M) H := hP
                              have hD : va_D A ([(oX11 m0 0 0 (nI n) fg (nI kj) fj fg (nI cj) fd rfm rt_ to_ rw_ wa (nI nt) rk rb cn br sm as_ go sh_ ir oa ob th ig sp_ ki tg of_ kp sf rs), (aI g fd 500 fb), (aI g to_ 25 tl), (aI g rk 7 rkj), (aI g rb 36 rbj), (aM g cn 7 (he_ro 7 r3)), (aM g br 7 (he_ro 7 r4))] ++ he_pl g L ln M) := hD
                              refine lv_aload_n hx hb dX11_contract_169 rfl (lv_at hl 0 rfl) ?_
                              refine va_get (v := .int fj) (T := TX11) (N := 35) hx hb hts inX11 hown hK hP 0 rfl rfl 5 (by decide) f101 (fun _ h9 => h9) rfl dX11_contract_170 ?_
                              refine lv_if_eq (tgt := 184) hx hb dX11_contract_173 (by decide) (fun c_23 => ?_) (fun c_23 => ?_)
                              · have hf0 := c_23
                                have e9 : (txP T n wl5 (bd5 w) (fun b _ => fl5 b) (21 - cj) cj wj kj) = (none, []) := tx_e (by rw [hbl]; omega)
                                rw [e9] at hX1 hXd hXb
                                have hRK : rkj = fdRl (txP T n wl5 (bd5 w) (fun b _ => fl5 b) 21 0 0 0).2 (flF iniF rk_ 7) := hXd
                                have hRB : rbj = fdB (txP T n wl5 (bd5 w) (fun b _ => fl5 b) 21 0 0 0).2 (flF (fun _ => -1) rb_ 36) := hXb
                                have hcb1 : cOk rkj := by rw [hRK]; exact fd_c _ _ (tx_v _ _ _ _) (ini_c _)
                                have hcb2 : bOk rbj := by rw [hRB]; exact fd_b hw6 _ _ (tx_v _ _ _ _) (ini_b _)
                                refine lv_aload_n hx hb dX11_contract_184 rfl (lv_at hl 0 rfl) ?_
                                refine va_get (v := .ref rk) (T := TX11) (N := 35) hx hb hts inX11 hown hK hP 0 rfl rfl 15 (by decide) f34 (fun _ h9 => h9) rfl dX11_contract_185 ?_
                                refine lv_iconst (v := 1) hx hb dX11_contract_188 (by decide) ?_
                                refine lv_aload_n hx hb dX11_contract_189 rfl (lv_at hl 0 rfl) ?_
                                refine va_get (v := .ref rk) (T := TX11) (N := 35) hx hb hts inX11 hown hK hP 0 rfl rfl 15 (by decide) f34 (fun _ h9 => h9) rfl dX11_contract_190 ?_
                                refine lv_iconst (v := 1) hx hb dX11_contract_193 (by decide) ?_
                                refine he_iald hx hb hK hP 3 rfl (1) (by decide) (by decide) (by first | decide | assumption) (rkj 1) rfl dX11_contract_194 ?_
                                refine lv_iconst (v := (-1)) hx hb dX11_contract_195 (by decide) ?_
                                refine lv_icmp_ne (tgt := 208) hx hb dX11_contract_196 (by decide) (fun c_24 => ?_) (fun c_24 => ?_)
                                · refine lv_aload_n hx hb dX11_contract_208 rfl (lv_at hl 0 rfl) ?_
                                  refine va_get (v := .ref rk) (T := TX11) (N := 35) hx hb hts inX11 hown hK hP 0 rfl rfl 15 (by decide) f34 (fun _ h9 => h9) rfl dX11_contract_209 ?_
                                  refine lv_iconst (v := 1) hx hb dX11_contract_212 (by decide) ?_
                                  refine he_iald hx hb hK hP 3 rfl (1) (by decide) (by decide) (by first | decide | assumption) (rkj 1) rfl dX11_contract_213 ?_
                                  refine he_iast hx hb hK hP hD hS 3 rfl (1) (by decide) (by decide) (by first | decide | assumption) dX11_contract_214 (fun H locs hP hD hS => ?_)
                                  have hP : va_P g.1 vwCl ([(oX11 m0 0 0 (nI n) fg (nI kj) fj fg (nI cj) fd rfm rt_ to_ rw_ wa (nI nt) rk rb cn br sm as_ go sh_ ir oa ob th ig sp_ ki tg of_ kp sf rs), (aI g fd 500 fb), (aI g to_ 25 tl), (aI g rk 7 (upd rkj 1 (rkj 1))), (aI g rb 36 rbj), (aM g cn 7 (he_ro 7 r3)), (aM g br 7 (he_ro 7 r4))] ++ he_pl g L ln M) H := hP
                                  have hD : va_D A ([(oX11 m0 0 0 (nI n) fg (nI kj) fj fg (nI cj) fd rfm rt_ to_ rw_ wa (nI nt) rk rb cn br sm as_ go sh_ ir oa ob th ig sp_ ki tg of_ kp sf rs), (aI g fd 500 fb), (aI g to_ 25 tl), (aI g rk 7 (upd rkj 1 (rkj 1))), (aI g rb 36 rbj), (aM g cn 7 (he_ro 7 r3)), (aM g br 7 (he_ro 7 r4))] ++ he_pl g L ln M) := hD
                                  refine lv_iconst (v := 0) hx hb dX11_contract_215 (by decide) ?_
                                  refine lv_istore_n (lv' := [(2, .int 0), (0, .ref m0), (1, .int (nI n))]) hx hb dX11_contract_216 rfl hl (by decide) rfl (fun ls hl => ?_)
                                  have loop217 : ∀ (n9 : Nat) (i3 : Nat) (rkj3 : Nat → Int32) (Mj : Nat → Nat → Int32), 36 - i3 < n9 → (i3 ≤ 36) → (cOk rkj3) → (bOk rbj) → (rFill (r4 nt) rbj M Mj i3) → (∀ b, b < 6 → rkj3 b = if b = 1 then (if rkj 1 = -1 then rkj 0 else rkj 1) else rkj b) → (rkj3 6 = nI (cnF rbj i3)) → ∀ (H : Heap) (locs : List Loc) (ls : Array Slot), va_P g.1 vwCl ([(oX11 m0 0 0 (nI n) fg (nI kj) fj fg (nI cj) fd rfm rt_ to_ rw_ wa (nI nt) rk rb cn br sm as_ go sh_ ir oa ob th ig sp_ ki tg of_ kp sf rs), (aI g fd 500 fb), (aI g to_ 25 tl), (aI g rk 7 rkj3), (aI g rb 36 rbj), (aM g cn 7 (he_ro 7 r3)), (aM g br 7 (he_ro 7 r4))] ++ he_pl g L ln Mj) H → va_D A ([(oX11 m0 0 0 (nI n) fg (nI kj) fj fg (nI cj) fd rfm rt_ to_ rw_ wa (nI nt) rk rb cn br sm as_ go sh_ ir oa ob th ig sp_ ki tg of_ kp sf rs), (aI g fd 500 fb), (aI g to_ 25 tl), (aI g rk 7 rkj3), (aI g rb 36 rbj), (aM g cn 7 (he_ro 7 r3)), (aM g br 7 (he_ro 7 r4))] ++ he_pl g L ln Mj) → va_S A s.heap H locs → lv_has ls 3 [(0, .ref m0), (1, .int (nI n)), (2, .int (nI i3))] → W p l e (he_room 5 112 0 0) s m args below meth c H locs 0 0 Q (F0 m 217 ls []) := by
                                    intro n9
                                    induction n9 with
                                    | zero => intro i3 rkj3 Mj hm9; exact absurd hm9 (Nat.not_lt_zero _)
                                    | succ n9 ih217 =>
                                      intro i3 rkj3 Mj hm9 hi3 hck hbk hy hk9 hk6 H locs ls hP hD hS hl
                                      refine lv_iload_n hx hb dX11_contract_217 rfl (lv_at hl 2 rfl) ?_
                                      refine lv_bipush (v := 36) hx hb dX11_contract_218 (by decide) ?_
                                      refine lv_icmp_ge (tgt := 271) hx hb dX11_contract_220 (by decide) (fun c_25 => ?_) (fun c_25 => ?_)
                                      · have k_26 : 36 ≤ i3 := (he_cle (a := 36) (b := i3) (by decide) rfl (by omega) (by omega)).mp c_25
                                        obtain rfl : i3 = 36 := by omega
                                        refine lv_iconst (v := 0) hx hb dX11_contract_271 (by decide) ?_
                                        refine lv_istore_n (lv' := [(2, .int 0), (0, .ref m0), (1, .int (nI n))]) hx hb dX11_contract_272 rfl hl (by decide) rfl (fun ls hl => ?_)
                                        have loop273 : ∀ (n9 : Nat) (i4 : Nat) (M7 : Nat → Nat → Int32), 7 - i4 < n9 → (i4 ≤ 7) → (rFill (r3 nt) rkj3 Mj M7 i4) → ∀ (H : Heap) (locs : List Loc) (ls : Array Slot), va_P g.1 vwCl ([(oX11 m0 0 0 (nI n) fg (nI kj) fj fg (nI cj) fd rfm rt_ to_ rw_ wa (nI nt) rk rb cn br sm as_ go sh_ ir oa ob th ig sp_ ki tg of_ kp sf rs), (aI g fd 500 fb), (aI g to_ 25 tl), (aI g rk 7 rkj3), (aI g rb 36 rbj), (aM g cn 7 (he_ro 7 r3)), (aM g br 7 (he_ro 7 r4))] ++ he_pl g L ln M7) H → va_D A ([(oX11 m0 0 0 (nI n) fg (nI kj) fj fg (nI cj) fd rfm rt_ to_ rw_ wa (nI nt) rk rb cn br sm as_ go sh_ ir oa ob th ig sp_ ki tg of_ kp sf rs), (aI g fd 500 fb), (aI g to_ 25 tl), (aI g rk 7 rkj3), (aI g rb 36 rbj), (aM g cn 7 (he_ro 7 r3)), (aM g br 7 (he_ro 7 r4))] ++ he_pl g L ln M7) → va_S A s.heap H locs → lv_has ls 3 [(0, .ref m0), (1, .int (nI n)), (2, .int (nI i4))] → W p l e (he_room 5 112 0 0) s m args below meth c H locs 0 0 Q (F0 m 273 ls []) := by
                                          intro n9
                                          induction n9 with
                                          | zero => intro i4 M7 hm9; exact absurd hm9 (Nat.not_lt_zero _)
                                          | succ n9 ih273 =>
                                            intro i4 M7 hm9 hi4 hz H locs ls hP hD hS hl
                                            refine lv_iload_n hx hb dX11_contract_273 rfl (lv_at hl 2 rfl) ?_
                                            refine lv_bipush (v := 7) hx hb dX11_contract_274 (by decide) ?_
                                            refine lv_icmp_ge (tgt := 302) hx hb dX11_contract_276 (by decide) (fun c_27 => ?_) (fun c_27 => ?_)
                                            · have k_28 : 7 ≤ i4 := (he_cle (a := 7) (b := i4) (by decide) rfl (by omega) (by omega)).mp c_27
                                              obtain rfl : i4 = 7 := by omega
                                              refine lv_aload_n hx hb dX11_contract_302 rfl (lv_at hl 0 rfl) ?_
                                              refine lv_dup hx hb dX11_contract_303 rfl ?_
                                              refine va_get (v := .int (nI nt)) (T := TX11) (N := 35) hx hb hts inX11 hown hK hP 0 rfl rfl 14 (by decide) f162 (fun _ h9 => h9) rfl dX11_contract_304 ?_
                                              refine lv_iconst (v := 1) hx hb dX11_contract_307 (by decide) ?_
                                              refine lv_iadd hx hb dX11_contract_308 ?_
                                              refine he_top (nI (nt + 1)) (nI_add nt 1) ?_
                                              refine va_put (v := .int (nI (nt + 1))) (ty := .int) (T := TX11) (N := 35) hx hb hts inX11 tyX11 tyX11_ok nmX11 hown hK hP hD hS 0 rfl rfl 14 (by decide) f162 (fun _ h9 => h9) rfl (by decide +kernel) rfl rfl (Nat.le_of_ble_eq_true rfl) dX11_contract_309 (fun H locs hP hD hS => ?_)
                                              have hP : va_P g.1 vwCl ([(oX11 m0 0 0 (nI n) fg (nI kj) fj fg (nI cj) fd rfm rt_ to_ rw_ wa (nI (nt + 1)) rk rb cn br sm as_ go sh_ ir oa ob th ig sp_ ki tg of_ kp sf rs), (aI g fd 500 fb), (aI g to_ 25 tl), (aI g rk 7 rkj3), (aI g rb 36 rbj), (aM g cn 7 (he_ro 7 r3)), (aM g br 7 (he_ro 7 r4))] ++ he_pl g L ln M7) H := hP
                                              have hD : va_D A ([(oX11 m0 0 0 (nI n) fg (nI kj) fj fg (nI cj) fd rfm rt_ to_ rw_ wa (nI (nt + 1)) rk rb cn br sm as_ go sh_ ir oa ob th ig sp_ ki tg of_ kp sf rs), (aI g fd 500 fb), (aI g to_ 25 tl), (aI g rk 7 rkj3), (aI g rb 36 rbj), (aM g cn 7 (he_ro 7 r3)), (aM g br 7 (he_ro 7 r4))] ++ he_pl g L ln M7) := hD
                                              refine lv_aload_n hx hb dX11_contract_312 rfl (lv_at hl 0 rfl) ?_
                                              refine va_get (v := .int (nI (nt + 1))) (T := TX11) (N := 35) hx hb hts inX11 hown hK hP 0 rfl rfl 14 (by decide) f162 (fun _ h9 => h9) rfl dX11_contract_313 ?_
                                              refine lv_iconst (v := 1) hx hb dX11_contract_316 (by decide) ?_
                                              refine lv_isub hx hb dX11_contract_317 ?_
                                              refine he_top (nI nt) (nI_pred nt) ?_
                                              exact he_ri hQ hx hb hr hlk hP hD hS dX11_contract_318 (Nat.le_of_ble_eq_true rfl) (Nat.le_of_ble_eq_true rfl) ((nt + 1, kj, fj, fg, nI cj, fg, rkj3, rbj, M7)) (rfl) (by (try dsimp only); exact ⟨Or.inr ⟨by (try dsimp only); omega, rfl, cOk_eq hck (fun b hb => hz.1 b (by (try dsimp only); omega)), bOk_eq hbk (fun b hb => by (try dsimp only); rw [hz.2 _ (fun h9 => D_r3_r4 nt nt (by (try dsimp only); omega) (by (try dsimp only); omega) h9.symm)]; exact hy.1 b (by (try dsimp only); omega)), fun a h1 h2 => by (try dsimp only); rw [hz.2 a h1, hy.2 a h2], hf0, rfl⟩, fun _ => ⟨by rw [← hX1]; exact hf0, by rw [← hX1]; exact hg0, by rw [← hX1]; exact hg0⟩, fun h9 => absurd h9 (by (try dsimp only); omega), fun _ _ => ct_rows hRK hRB hk9 hk6 (fun b hb => hz.1 b (by (try dsimp only); omega)) (fun b hb => by (try dsimp only); rw [hz.2 _ (fun h9 => D_r3_r4 nt nt (by (try dsimp only); omega) (by (try dsimp only); omega) h9.symm)]; exact hy.1 b (by (try dsimp only); omega))⟩)
                                            · have k_29 : ¬ (7 ≤ i4) := fun h9 => c_27 ((he_cle (a := 7) (b := i4) (by decide) rfl (by omega) (by omega)).mpr h9)
                                              refine lv_aload_n hx hb dX11_contract_279 rfl (lv_at hl 0 rfl) ?_
                                              refine va_get (v := .ref cn) (T := TX11) (N := 35) hx hb hts inX11 hown hK hP 0 rfl rfl 17 (by decide) f40 (fun _ h9 => h9) rfl dX11_contract_280 ?_
                                              refine lv_aload_n hx hb dX11_contract_283 rfl (lv_at hl 0 rfl) ?_
                                              refine va_get (v := .int (nI nt)) (T := TX11) (N := 35) hx hb hts inX11 hown hK hP 0 rfl rfl 14 (by decide) f162 (fun _ h9 => h9) rfl dX11_contract_284 ?_
                                              refine he_aldm hx hb hK hP 5 rfl (nt) rfl (by first | assumption | decide | omega) (by decide) dX11_contract_287 ?_
                                              refine lv_iload_n hx hb dX11_contract_288 rfl (lv_at hl 2 rfl) ?_
                                              refine lv_aload_n hx hb dX11_contract_289 rfl (lv_at hl 0 rfl) ?_
                                              refine va_get (v := .ref rk) (T := TX11) (N := 35) hx hb hts inX11 hown hK hP 0 rfl rfl 15 (by decide) f34 (fun _ h9 => h9) rfl dX11_contract_290 ?_
                                              refine lv_iload_n hx hb dX11_contract_293 rfl (lv_at hl 2 rfl) ?_
                                              refine he_iald hx hb hK hP 3 rfl (i4) rfl (by first | assumption | decide | omega) (by first | decide | assumption) (rkj3 i4) rfl dX11_contract_294 ?_
                                              refine he_past hx hb hK hP hD hS (F_r3 nt (by first | assumption | decide | omega)).1 (i4) rfl (by rw [(F_r3 nt (by first | assumption | decide | omega)).2.1]; exact (by first | assumption | decide | omega)) (by rw [(F_r3 nt (by first | assumption | decide | omega)).2.1]; decide) dX11_contract_295 (fun H locs hP hD hS => ?_)
                                              have hP : va_P g.1 vwCl ([(oX11 m0 0 0 (nI n) fg (nI kj) fj fg (nI cj) fd rfm rt_ to_ rw_ wa (nI nt) rk rb cn br sm as_ go sh_ ir oa ob th ig sp_ ki tg of_ kp sf rs), (aI g fd 500 fb), (aI g to_ 25 tl), (aI g rk 7 rkj3), (aI g rb 36 rbj), (aM g cn 7 (he_ro 7 r3)), (aM g br 7 (he_ro 7 r4))] ++ he_pl g L ln (va_up M7 (r3 nt) (upd (M7 (r3 nt)) i4 (rkj3 i4)))) H := hP
                                              have hD : va_D A ([(oX11 m0 0 0 (nI n) fg (nI kj) fj fg (nI cj) fd rfm rt_ to_ rw_ wa (nI nt) rk rb cn br sm as_ go sh_ ir oa ob th ig sp_ ki tg of_ kp sf rs), (aI g fd 500 fb), (aI g to_ 25 tl), (aI g rk 7 rkj3), (aI g rb 36 rbj), (aM g cn 7 (he_ro 7 r3)), (aM g br 7 (he_ro 7 r4))] ++ he_pl g L ln (va_up M7 (r3 nt) (upd (M7 (r3 nt)) i4 (rkj3 i4)))) := hD
                                              refine lv_iinc (v := nI (i4 + 1)) (lv' := [(2, .int (nI (i4 + 1))), (0, .ref m0), (1, .int (nI n))]) hx hb dX11_contract_296 hl (k := 2) rfl (nI_1 i4) (by decide) rfl (fun ls hl => ?_)
                                              refine lv_goto (tgt := 273) hx hb dX11_contract_299 (by decide) ?_
                                              exact ih273 (i4 + 1) (va_up M7 (r3 nt) (upd (M7 (r3 nt)) i4 (rkj3 i4))) (by omega) (by omega) (rFill_s hz) _ _ _ hP hD hS (lv_sub hl [1, 2, 0] rfl)
                                        exact loop273 ((7 - 0) + 1) 0 Mj (Nat.lt_succ_self _) (Nat.zero_le _) (rFill_0 _ _ _) _ _ _ hP hD hS (lv_sub hl [1, 2, 0] rfl)
                                      · have k_30 : ¬ (36 ≤ i3) := fun h9 => c_25 ((he_cle (a := 36) (b := i3) (by decide) rfl (by omega) (by omega)).mpr h9)
                                        refine lv_aload_n hx hb dX11_contract_223 rfl (lv_at hl 0 rfl) ?_
                                        refine va_get (v := .ref br) (T := TX11) (N := 35) hx hb hts inX11 hown hK hP 0 rfl rfl 18 (by decide) f43 (fun _ h9 => h9) rfl dX11_contract_224 ?_
                                        refine lv_aload_n hx hb dX11_contract_227 rfl (lv_at hl 0 rfl) ?_
                                        refine va_get (v := .int (nI nt)) (T := TX11) (N := 35) hx hb hts inX11 hown hK hP 0 rfl rfl 14 (by decide) f162 (fun _ h9 => h9) rfl dX11_contract_228 ?_
                                        refine he_aldm hx hb hK hP 6 rfl (nt) rfl (by first | assumption | decide | omega) (by decide) dX11_contract_231 ?_
                                        refine lv_iload_n hx hb dX11_contract_232 rfl (lv_at hl 2 rfl) ?_
                                        refine lv_aload_n hx hb dX11_contract_233 rfl (lv_at hl 0 rfl) ?_
                                        refine va_get (v := .ref rb) (T := TX11) (N := 35) hx hb hts inX11 hown hK hP 0 rfl rfl 16 (by decide) f37 (fun _ h9 => h9) rfl dX11_contract_234 ?_
                                        refine lv_iload_n hx hb dX11_contract_237 rfl (lv_at hl 2 rfl) ?_
                                        refine he_iald hx hb hK hP 4 rfl (i3) rfl (by first | assumption | decide | omega) (by first | decide | assumption) (rbj i3) rfl dX11_contract_238 ?_
                                        refine he_past hx hb hK hP hD hS (F_r4 nt (by first | assumption | decide | omega)).1 (i3) rfl (by rw [(F_r4 nt (by first | assumption | decide | omega)).2.1]; exact (by first | assumption | decide | omega)) (by rw [(F_r4 nt (by first | assumption | decide | omega)).2.1]; decide) dX11_contract_239 (fun H locs hP hD hS => ?_)
                                        have hP : va_P g.1 vwCl ([(oX11 m0 0 0 (nI n) fg (nI kj) fj fg (nI cj) fd rfm rt_ to_ rw_ wa (nI nt) rk rb cn br sm as_ go sh_ ir oa ob th ig sp_ ki tg of_ kp sf rs), (aI g fd 500 fb), (aI g to_ 25 tl), (aI g rk 7 rkj3), (aI g rb 36 rbj), (aM g cn 7 (he_ro 7 r3)), (aM g br 7 (he_ro 7 r4))] ++ he_pl g L ln (va_up Mj (r4 nt) (upd (Mj (r4 nt)) i3 (rbj i3)))) H := hP
                                        have hD : va_D A ([(oX11 m0 0 0 (nI n) fg (nI kj) fj fg (nI cj) fd rfm rt_ to_ rw_ wa (nI nt) rk rb cn br sm as_ go sh_ ir oa ob th ig sp_ ki tg of_ kp sf rs), (aI g fd 500 fb), (aI g to_ 25 tl), (aI g rk 7 rkj3), (aI g rb 36 rbj), (aM g cn 7 (he_ro 7 r3)), (aM g br 7 (he_ro 7 r4))] ++ he_pl g L ln (va_up Mj (r4 nt) (upd (Mj (r4 nt)) i3 (rbj i3)))) := hD
                                        refine lv_aload_n hx hb dX11_contract_240 rfl (lv_at hl 0 rfl) ?_
                                        refine va_get (v := .ref rk) (T := TX11) (N := 35) hx hb hts inX11 hown hK hP 0 rfl rfl 15 (by decide) f34 (fun _ h9 => h9) rfl dX11_contract_241 ?_
                                        refine lv_bipush (v := 6) hx hb dX11_contract_244 (by decide) ?_
                                        refine lv_dup2_11 hx hb dX11_contract_246 rfl rfl ?_
                                        refine he_iald hx hb hK hP 3 rfl (6) (by decide) (by decide) (by first | decide | assumption) (rkj3 6) rfl dX11_contract_247 ?_
                                        refine lv_aload_n hx hb dX11_contract_248 rfl (lv_at hl 0 rfl) ?_
                                        refine va_get (v := .ref rb) (T := TX11) (N := 35) hx hb hts inX11 hown hK hP 0 rfl rfl 16 (by decide) f37 (fun _ h9 => h9) rfl dX11_contract_249 ?_
                                        refine lv_iload_n hx hb dX11_contract_252 rfl (lv_at hl 2 rfl) ?_
                                        refine he_iald hx hb hK hP 4 rfl (i3) rfl (by first | assumption | decide | omega) (by first | decide | assumption) (rbj i3) rfl dX11_contract_253 ?_
                                        refine lv_iconst (v := (-1)) hx hb dX11_contract_254 (by decide) ?_
                                        refine lv_icmp_ne (tgt := 262) hx hb dX11_contract_255 (by decide) (fun c_31 => ?_) (fun c_31 => ?_)
                                        · refine lv_iconst (v := 1) hx hb dX11_contract_262 (by decide) ?_
                                          refine lv_iadd hx hb dX11_contract_263 ?_
                                          refine he_iast hx hb hK hP hD hS 3 rfl (6) (by decide) (by decide) (by first | decide | assumption) dX11_contract_264 (fun H locs hP hD hS => ?_)
                                          have hP : va_P g.1 vwCl ([(oX11 m0 0 0 (nI n) fg (nI kj) fj fg (nI cj) fd rfm rt_ to_ rw_ wa (nI nt) rk rb cn br sm as_ go sh_ ir oa ob th ig sp_ ki tg of_ kp sf rs), (aI g fd 500 fb), (aI g to_ 25 tl), (aI g rk 7 (upd rkj3 6 ((rkj3 6) + 1))), (aI g rb 36 rbj), (aM g cn 7 (he_ro 7 r3)), (aM g br 7 (he_ro 7 r4))] ++ he_pl g L ln (va_up Mj (r4 nt) (upd (Mj (r4 nt)) i3 (rbj i3)))) H := hP
                                          have hD : va_D A ([(oX11 m0 0 0 (nI n) fg (nI kj) fj fg (nI cj) fd rfm rt_ to_ rw_ wa (nI nt) rk rb cn br sm as_ go sh_ ir oa ob th ig sp_ ki tg of_ kp sf rs), (aI g fd 500 fb), (aI g to_ 25 tl), (aI g rk 7 (upd rkj3 6 ((rkj3 6) + 1))), (aI g rb 36 rbj), (aM g cn 7 (he_ro 7 r3)), (aM g br 7 (he_ro 7 r4))] ++ he_pl g L ln (va_up Mj (r4 nt) (upd (Mj (r4 nt)) i3 (rbj i3)))) := hD
                                          refine lv_iinc (v := nI (i3 + 1)) (lv' := [(2, .int (nI (i3 + 1))), (0, .ref m0), (1, .int (nI n))]) hx hb dX11_contract_265 hl (k := 2) rfl (nI_1 i3) (by decide) rfl (fun ls hl => ?_)
                                          refine lv_goto (tgt := 217) hx hb dX11_contract_268 (by decide) ?_
                                          exact ih217 (i3 + 1) (upd rkj3 6 ((rkj3 6) + 1)) (va_up Mj (r4 nt) (upd (Mj (r4 nt)) i3 (rbj i3))) (by omega) (by omega) (cOk_upd hck (fun e9 => absurd e9 (by decide)) (fun e9 => absurd e9 (by decide)) (fun e9 => absurd e9 (by decide))) hbk (rFill_s hy) (fun b hb => by rw [upd_n (by omega)]; exact hk9 b hb) (by rw [upd_s, hk6, cnF_n c_31]; exact nI_1 _) _ _ _ hP hD hS (lv_sub hl [1, 2, 0] rfl)
                                        · refine lv_iconst (v := 0) hx hb dX11_contract_258 (by decide) ?_
                                          refine lv_goto (tgt := 263) hx hb dX11_contract_259 (by decide) ?_
                                          refine lv_iadd hx hb dX11_contract_263 ?_
                                          refine he_iast hx hb hK hP hD hS 3 rfl (6) (by decide) (by decide) (by first | decide | assumption) dX11_contract_264 (fun H locs hP hD hS => ?_)
                                          have hP : va_P g.1 vwCl ([(oX11 m0 0 0 (nI n) fg (nI kj) fj fg (nI cj) fd rfm rt_ to_ rw_ wa (nI nt) rk rb cn br sm as_ go sh_ ir oa ob th ig sp_ ki tg of_ kp sf rs), (aI g fd 500 fb), (aI g to_ 25 tl), (aI g rk 7 (upd rkj3 6 ((rkj3 6) + 0))), (aI g rb 36 rbj), (aM g cn 7 (he_ro 7 r3)), (aM g br 7 (he_ro 7 r4))] ++ he_pl g L ln (va_up Mj (r4 nt) (upd (Mj (r4 nt)) i3 (rbj i3)))) H := hP
                                          have hD : va_D A ([(oX11 m0 0 0 (nI n) fg (nI kj) fj fg (nI cj) fd rfm rt_ to_ rw_ wa (nI nt) rk rb cn br sm as_ go sh_ ir oa ob th ig sp_ ki tg of_ kp sf rs), (aI g fd 500 fb), (aI g to_ 25 tl), (aI g rk 7 (upd rkj3 6 ((rkj3 6) + 0))), (aI g rb 36 rbj), (aM g cn 7 (he_ro 7 r3)), (aM g br 7 (he_ro 7 r4))] ++ he_pl g L ln (va_up Mj (r4 nt) (upd (Mj (r4 nt)) i3 (rbj i3)))) := hD
                                          refine lv_iinc (v := nI (i3 + 1)) (lv' := [(2, .int (nI (i3 + 1))), (0, .ref m0), (1, .int (nI n))]) hx hb dX11_contract_265 hl (k := 2) rfl (nI_1 i3) (by decide) rfl (fun ls hl => ?_)
                                          refine lv_goto (tgt := 217) hx hb dX11_contract_268 (by decide) ?_
                                          exact ih217 (i3 + 1) (upd rkj3 6 ((rkj3 6) + 0)) (va_up Mj (r4 nt) (upd (Mj (r4 nt)) i3 (rbj i3))) (by omega) (by omega) (cOk_upd hck (fun e9 => absurd e9 (by decide)) (fun e9 => absurd e9 (by decide)) (fun e9 => absurd e9 (by decide))) hbk (rFill_s hy) (fun b hb => by rw [upd_n (by omega)]; exact hk9 b hb) (by rw [upd_s, hk6, cnF_e c_31]; exact Int32.add_zero _) _ _ _ hP hD hS (lv_sub hl [1, 2, 0] rfl)
                                  exact loop217 ((36 - 0) + 1) 0 (upd rkj 1 (rkj 1)) M (Nat.lt_succ_self _) (Nat.zero_le _) (cOk_upd hcb1 (fun e9 => absurd e9 (by decide)) (fun e9 => absurd e9 (by decide)) (fun e9 => absurd e9 (by decide))) hcb2 (rFill_0 _ _ _) (ct_i9 (by rw [if_neg c_24])) (by rw [upd_n (by decide), hRK]; exact rl_6 _ _) _ _ _ hP hD hS (lv_sub hl [1, 2, 0] rfl)
                                · refine lv_aload_n hx hb dX11_contract_199 rfl (lv_at hl 0 rfl) ?_
                                  refine va_get (v := .ref rk) (T := TX11) (N := 35) hx hb hts inX11 hown hK hP 0 rfl rfl 15 (by decide) f34 (fun _ h9 => h9) rfl dX11_contract_200 ?_
                                  refine lv_iconst (v := 0) hx hb dX11_contract_203 (by decide) ?_
                                  refine he_iald hx hb hK hP 3 rfl (0) (by decide) (by decide) (by first | decide | assumption) (rkj 0) rfl dX11_contract_204 ?_
                                  refine lv_goto (tgt := 214) hx hb dX11_contract_205 (by decide) ?_
                                  refine he_iast hx hb hK hP hD hS 3 rfl (1) (by decide) (by decide) (by first | decide | assumption) dX11_contract_214 (fun H locs hP hD hS => ?_)
                                  have hP : va_P g.1 vwCl ([(oX11 m0 0 0 (nI n) fg (nI kj) fj fg (nI cj) fd rfm rt_ to_ rw_ wa (nI nt) rk rb cn br sm as_ go sh_ ir oa ob th ig sp_ ki tg of_ kp sf rs), (aI g fd 500 fb), (aI g to_ 25 tl), (aI g rk 7 (upd rkj 1 (rkj 0))), (aI g rb 36 rbj), (aM g cn 7 (he_ro 7 r3)), (aM g br 7 (he_ro 7 r4))] ++ he_pl g L ln M) H := hP
                                  have hD : va_D A ([(oX11 m0 0 0 (nI n) fg (nI kj) fj fg (nI cj) fd rfm rt_ to_ rw_ wa (nI nt) rk rb cn br sm as_ go sh_ ir oa ob th ig sp_ ki tg of_ kp sf rs), (aI g fd 500 fb), (aI g to_ 25 tl), (aI g rk 7 (upd rkj 1 (rkj 0))), (aI g rb 36 rbj), (aM g cn 7 (he_ro 7 r3)), (aM g br 7 (he_ro 7 r4))] ++ he_pl g L ln M) := hD
                                  refine lv_iconst (v := 0) hx hb dX11_contract_215 (by decide) ?_
                                  refine lv_istore_n (lv' := [(2, .int 0), (0, .ref m0), (1, .int (nI n))]) hx hb dX11_contract_216 rfl hl (by decide) rfl (fun ls hl => ?_)
                                  have loop217 : ∀ (n9 : Nat) (i3 : Nat) (rkj3 : Nat → Int32) (Mj : Nat → Nat → Int32), 36 - i3 < n9 → (i3 ≤ 36) → (cOk rkj3) → (bOk rbj) → (rFill (r4 nt) rbj M Mj i3) → (∀ b, b < 6 → rkj3 b = if b = 1 then (if rkj 1 = -1 then rkj 0 else rkj 1) else rkj b) → (rkj3 6 = nI (cnF rbj i3)) → ∀ (H : Heap) (locs : List Loc) (ls : Array Slot), va_P g.1 vwCl ([(oX11 m0 0 0 (nI n) fg (nI kj) fj fg (nI cj) fd rfm rt_ to_ rw_ wa (nI nt) rk rb cn br sm as_ go sh_ ir oa ob th ig sp_ ki tg of_ kp sf rs), (aI g fd 500 fb), (aI g to_ 25 tl), (aI g rk 7 rkj3), (aI g rb 36 rbj), (aM g cn 7 (he_ro 7 r3)), (aM g br 7 (he_ro 7 r4))] ++ he_pl g L ln Mj) H → va_D A ([(oX11 m0 0 0 (nI n) fg (nI kj) fj fg (nI cj) fd rfm rt_ to_ rw_ wa (nI nt) rk rb cn br sm as_ go sh_ ir oa ob th ig sp_ ki tg of_ kp sf rs), (aI g fd 500 fb), (aI g to_ 25 tl), (aI g rk 7 rkj3), (aI g rb 36 rbj), (aM g cn 7 (he_ro 7 r3)), (aM g br 7 (he_ro 7 r4))] ++ he_pl g L ln Mj) → va_S A s.heap H locs → lv_has ls 3 [(0, .ref m0), (1, .int (nI n)), (2, .int (nI i3))] → W p l e (he_room 5 112 0 0) s m args below meth c H locs 0 0 Q (F0 m 217 ls []) := by
                                    intro n9
                                    induction n9 with
                                    | zero => intro i3 rkj3 Mj hm9; exact absurd hm9 (Nat.not_lt_zero _)
                                    | succ n9 ih217 =>
                                      intro i3 rkj3 Mj hm9 hi3 hck hbk hy hk9 hk6 H locs ls hP hD hS hl
                                      refine lv_iload_n hx hb dX11_contract_217 rfl (lv_at hl 2 rfl) ?_
                                      refine lv_bipush (v := 36) hx hb dX11_contract_218 (by decide) ?_
                                      refine lv_icmp_ge (tgt := 271) hx hb dX11_contract_220 (by decide) (fun c_32 => ?_) (fun c_32 => ?_)
                                      · have k_33 : 36 ≤ i3 := (he_cle (a := 36) (b := i3) (by decide) rfl (by omega) (by omega)).mp c_32
                                        obtain rfl : i3 = 36 := by omega
                                        refine lv_iconst (v := 0) hx hb dX11_contract_271 (by decide) ?_
                                        refine lv_istore_n (lv' := [(2, .int 0), (0, .ref m0), (1, .int (nI n))]) hx hb dX11_contract_272 rfl hl (by decide) rfl (fun ls hl => ?_)
                                        have loop273 : ∀ (n9 : Nat) (i4 : Nat) (M7 : Nat → Nat → Int32), 7 - i4 < n9 → (i4 ≤ 7) → (rFill (r3 nt) rkj3 Mj M7 i4) → ∀ (H : Heap) (locs : List Loc) (ls : Array Slot), va_P g.1 vwCl ([(oX11 m0 0 0 (nI n) fg (nI kj) fj fg (nI cj) fd rfm rt_ to_ rw_ wa (nI nt) rk rb cn br sm as_ go sh_ ir oa ob th ig sp_ ki tg of_ kp sf rs), (aI g fd 500 fb), (aI g to_ 25 tl), (aI g rk 7 rkj3), (aI g rb 36 rbj), (aM g cn 7 (he_ro 7 r3)), (aM g br 7 (he_ro 7 r4))] ++ he_pl g L ln M7) H → va_D A ([(oX11 m0 0 0 (nI n) fg (nI kj) fj fg (nI cj) fd rfm rt_ to_ rw_ wa (nI nt) rk rb cn br sm as_ go sh_ ir oa ob th ig sp_ ki tg of_ kp sf rs), (aI g fd 500 fb), (aI g to_ 25 tl), (aI g rk 7 rkj3), (aI g rb 36 rbj), (aM g cn 7 (he_ro 7 r3)), (aM g br 7 (he_ro 7 r4))] ++ he_pl g L ln M7) → va_S A s.heap H locs → lv_has ls 3 [(0, .ref m0), (1, .int (nI n)), (2, .int (nI i4))] → W p l e (he_room 5 112 0 0) s m args below meth c H locs 0 0 Q (F0 m 273 ls []) := by
                                          intro n9
                                          induction n9 with
                                          | zero => intro i4 M7 hm9; exact absurd hm9 (Nat.not_lt_zero _)
                                          | succ n9 ih273 =>
                                            intro i4 M7 hm9 hi4 hz H locs ls hP hD hS hl
                                            refine lv_iload_n hx hb dX11_contract_273 rfl (lv_at hl 2 rfl) ?_
                                            refine lv_bipush (v := 7) hx hb dX11_contract_274 (by decide) ?_
                                            refine lv_icmp_ge (tgt := 302) hx hb dX11_contract_276 (by decide) (fun c_34 => ?_) (fun c_34 => ?_)
                                            · have k_35 : 7 ≤ i4 := (he_cle (a := 7) (b := i4) (by decide) rfl (by omega) (by omega)).mp c_34
                                              obtain rfl : i4 = 7 := by omega
                                              refine lv_aload_n hx hb dX11_contract_302 rfl (lv_at hl 0 rfl) ?_
                                              refine lv_dup hx hb dX11_contract_303 rfl ?_
                                              refine va_get (v := .int (nI nt)) (T := TX11) (N := 35) hx hb hts inX11 hown hK hP 0 rfl rfl 14 (by decide) f162 (fun _ h9 => h9) rfl dX11_contract_304 ?_
                                              refine lv_iconst (v := 1) hx hb dX11_contract_307 (by decide) ?_
                                              refine lv_iadd hx hb dX11_contract_308 ?_
                                              refine he_top (nI (nt + 1)) (nI_add nt 1) ?_
                                              refine va_put (v := .int (nI (nt + 1))) (ty := .int) (T := TX11) (N := 35) hx hb hts inX11 tyX11 tyX11_ok nmX11 hown hK hP hD hS 0 rfl rfl 14 (by decide) f162 (fun _ h9 => h9) rfl (by decide +kernel) rfl rfl (Nat.le_of_ble_eq_true rfl) dX11_contract_309 (fun H locs hP hD hS => ?_)
                                              have hP : va_P g.1 vwCl ([(oX11 m0 0 0 (nI n) fg (nI kj) fj fg (nI cj) fd rfm rt_ to_ rw_ wa (nI (nt + 1)) rk rb cn br sm as_ go sh_ ir oa ob th ig sp_ ki tg of_ kp sf rs), (aI g fd 500 fb), (aI g to_ 25 tl), (aI g rk 7 rkj3), (aI g rb 36 rbj), (aM g cn 7 (he_ro 7 r3)), (aM g br 7 (he_ro 7 r4))] ++ he_pl g L ln M7) H := hP
                                              have hD : va_D A ([(oX11 m0 0 0 (nI n) fg (nI kj) fj fg (nI cj) fd rfm rt_ to_ rw_ wa (nI (nt + 1)) rk rb cn br sm as_ go sh_ ir oa ob th ig sp_ ki tg of_ kp sf rs), (aI g fd 500 fb), (aI g to_ 25 tl), (aI g rk 7 rkj3), (aI g rb 36 rbj), (aM g cn 7 (he_ro 7 r3)), (aM g br 7 (he_ro 7 r4))] ++ he_pl g L ln M7) := hD
                                              refine lv_aload_n hx hb dX11_contract_312 rfl (lv_at hl 0 rfl) ?_
                                              refine va_get (v := .int (nI (nt + 1))) (T := TX11) (N := 35) hx hb hts inX11 hown hK hP 0 rfl rfl 14 (by decide) f162 (fun _ h9 => h9) rfl dX11_contract_313 ?_
                                              refine lv_iconst (v := 1) hx hb dX11_contract_316 (by decide) ?_
                                              refine lv_isub hx hb dX11_contract_317 ?_
                                              refine he_top (nI nt) (nI_pred nt) ?_
                                              exact he_ri hQ hx hb hr hlk hP hD hS dX11_contract_318 (Nat.le_of_ble_eq_true rfl) (Nat.le_of_ble_eq_true rfl) ((nt + 1, kj, fj, fg, nI cj, fg, rkj3, rbj, M7)) (rfl) (by (try dsimp only); exact ⟨Or.inr ⟨by (try dsimp only); omega, rfl, cOk_eq hck (fun b hb => hz.1 b (by (try dsimp only); omega)), bOk_eq hbk (fun b hb => by (try dsimp only); rw [hz.2 _ (fun h9 => D_r3_r4 nt nt (by (try dsimp only); omega) (by (try dsimp only); omega) h9.symm)]; exact hy.1 b (by (try dsimp only); omega)), fun a h1 h2 => by (try dsimp only); rw [hz.2 a h1, hy.2 a h2], hf0, rfl⟩, fun _ => ⟨by rw [← hX1]; exact hf0, by rw [← hX1]; exact hg0, by rw [← hX1]; exact hg0⟩, fun h9 => absurd h9 (by (try dsimp only); omega), fun _ _ => ct_rows hRK hRB hk9 hk6 (fun b hb => hz.1 b (by (try dsimp only); omega)) (fun b hb => by (try dsimp only); rw [hz.2 _ (fun h9 => D_r3_r4 nt nt (by (try dsimp only); omega) (by (try dsimp only); omega) h9.symm)]; exact hy.1 b (by (try dsimp only); omega))⟩)
                                            · have k_36 : ¬ (7 ≤ i4) := fun h9 => c_34 ((he_cle (a := 7) (b := i4) (by decide) rfl (by omega) (by omega)).mpr h9)
                                              refine lv_aload_n hx hb dX11_contract_279 rfl (lv_at hl 0 rfl) ?_
                                              refine va_get (v := .ref cn) (T := TX11) (N := 35) hx hb hts inX11 hown hK hP 0 rfl rfl 17 (by decide) f40 (fun _ h9 => h9) rfl dX11_contract_280 ?_
                                              refine lv_aload_n hx hb dX11_contract_283 rfl (lv_at hl 0 rfl) ?_
                                              refine va_get (v := .int (nI nt)) (T := TX11) (N := 35) hx hb hts inX11 hown hK hP 0 rfl rfl 14 (by decide) f162 (fun _ h9 => h9) rfl dX11_contract_284 ?_
                                              refine he_aldm hx hb hK hP 5 rfl (nt) rfl (by first | assumption | decide | omega) (by decide) dX11_contract_287 ?_
                                              refine lv_iload_n hx hb dX11_contract_288 rfl (lv_at hl 2 rfl) ?_
                                              refine lv_aload_n hx hb dX11_contract_289 rfl (lv_at hl 0 rfl) ?_
                                              refine va_get (v := .ref rk) (T := TX11) (N := 35) hx hb hts inX11 hown hK hP 0 rfl rfl 15 (by decide) f34 (fun _ h9 => h9) rfl dX11_contract_290 ?_
                                              refine lv_iload_n hx hb dX11_contract_293 rfl (lv_at hl 2 rfl) ?_
                                              refine he_iald hx hb hK hP 3 rfl (i4) rfl (by first | assumption | decide | omega) (by first | decide | assumption) (rkj3 i4) rfl dX11_contract_294 ?_
                                              refine he_past hx hb hK hP hD hS (F_r3 nt (by first | assumption | decide | omega)).1 (i4) rfl (by rw [(F_r3 nt (by first | assumption | decide | omega)).2.1]; exact (by first | assumption | decide | omega)) (by rw [(F_r3 nt (by first | assumption | decide | omega)).2.1]; decide) dX11_contract_295 (fun H locs hP hD hS => ?_)
                                              have hP : va_P g.1 vwCl ([(oX11 m0 0 0 (nI n) fg (nI kj) fj fg (nI cj) fd rfm rt_ to_ rw_ wa (nI nt) rk rb cn br sm as_ go sh_ ir oa ob th ig sp_ ki tg of_ kp sf rs), (aI g fd 500 fb), (aI g to_ 25 tl), (aI g rk 7 rkj3), (aI g rb 36 rbj), (aM g cn 7 (he_ro 7 r3)), (aM g br 7 (he_ro 7 r4))] ++ he_pl g L ln (va_up M7 (r3 nt) (upd (M7 (r3 nt)) i4 (rkj3 i4)))) H := hP
                                              have hD : va_D A ([(oX11 m0 0 0 (nI n) fg (nI kj) fj fg (nI cj) fd rfm rt_ to_ rw_ wa (nI nt) rk rb cn br sm as_ go sh_ ir oa ob th ig sp_ ki tg of_ kp sf rs), (aI g fd 500 fb), (aI g to_ 25 tl), (aI g rk 7 rkj3), (aI g rb 36 rbj), (aM g cn 7 (he_ro 7 r3)), (aM g br 7 (he_ro 7 r4))] ++ he_pl g L ln (va_up M7 (r3 nt) (upd (M7 (r3 nt)) i4 (rkj3 i4)))) := hD
                                              refine lv_iinc (v := nI (i4 + 1)) (lv' := [(2, .int (nI (i4 + 1))), (0, .ref m0), (1, .int (nI n))]) hx hb dX11_contract_296 hl (k := 2) rfl (nI_1 i4) (by decide) rfl (fun ls hl => ?_)
                                              refine lv_goto (tgt := 273) hx hb dX11_contract_299 (by decide) ?_
                                              exact ih273 (i4 + 1) (va_up M7 (r3 nt) (upd (M7 (r3 nt)) i4 (rkj3 i4))) (by omega) (by omega) (rFill_s hz) _ _ _ hP hD hS (lv_sub hl [1, 2, 0] rfl)
                                        exact loop273 ((7 - 0) + 1) 0 Mj (Nat.lt_succ_self _) (Nat.zero_le _) (rFill_0 _ _ _) _ _ _ hP hD hS (lv_sub hl [1, 2, 0] rfl)
                                      · have k_37 : ¬ (36 ≤ i3) := fun h9 => c_32 ((he_cle (a := 36) (b := i3) (by decide) rfl (by omega) (by omega)).mpr h9)
                                        refine lv_aload_n hx hb dX11_contract_223 rfl (lv_at hl 0 rfl) ?_
                                        refine va_get (v := .ref br) (T := TX11) (N := 35) hx hb hts inX11 hown hK hP 0 rfl rfl 18 (by decide) f43 (fun _ h9 => h9) rfl dX11_contract_224 ?_
                                        refine lv_aload_n hx hb dX11_contract_227 rfl (lv_at hl 0 rfl) ?_
                                        refine va_get (v := .int (nI nt)) (T := TX11) (N := 35) hx hb hts inX11 hown hK hP 0 rfl rfl 14 (by decide) f162 (fun _ h9 => h9) rfl dX11_contract_228 ?_
                                        refine he_aldm hx hb hK hP 6 rfl (nt) rfl (by first | assumption | decide | omega) (by decide) dX11_contract_231 ?_
                                        refine lv_iload_n hx hb dX11_contract_232 rfl (lv_at hl 2 rfl) ?_
                                        refine lv_aload_n hx hb dX11_contract_233 rfl (lv_at hl 0 rfl) ?_
                                        refine va_get (v := .ref rb) (T := TX11) (N := 35) hx hb hts inX11 hown hK hP 0 rfl rfl 16 (by decide) f37 (fun _ h9 => h9) rfl dX11_contract_234 ?_
                                        refine lv_iload_n hx hb dX11_contract_237 rfl (lv_at hl 2 rfl) ?_
                                        refine he_iald hx hb hK hP 4 rfl (i3) rfl (by first | assumption | decide | omega) (by first | decide | assumption) (rbj i3) rfl dX11_contract_238 ?_
                                        refine he_past hx hb hK hP hD hS (F_r4 nt (by first | assumption | decide | omega)).1 (i3) rfl (by rw [(F_r4 nt (by first | assumption | decide | omega)).2.1]; exact (by first | assumption | decide | omega)) (by rw [(F_r4 nt (by first | assumption | decide | omega)).2.1]; decide) dX11_contract_239 (fun H locs hP hD hS => ?_)
                                        have hP : va_P g.1 vwCl ([(oX11 m0 0 0 (nI n) fg (nI kj) fj fg (nI cj) fd rfm rt_ to_ rw_ wa (nI nt) rk rb cn br sm as_ go sh_ ir oa ob th ig sp_ ki tg of_ kp sf rs), (aI g fd 500 fb), (aI g to_ 25 tl), (aI g rk 7 rkj3), (aI g rb 36 rbj), (aM g cn 7 (he_ro 7 r3)), (aM g br 7 (he_ro 7 r4))] ++ he_pl g L ln (va_up Mj (r4 nt) (upd (Mj (r4 nt)) i3 (rbj i3)))) H := hP
                                        have hD : va_D A ([(oX11 m0 0 0 (nI n) fg (nI kj) fj fg (nI cj) fd rfm rt_ to_ rw_ wa (nI nt) rk rb cn br sm as_ go sh_ ir oa ob th ig sp_ ki tg of_ kp sf rs), (aI g fd 500 fb), (aI g to_ 25 tl), (aI g rk 7 rkj3), (aI g rb 36 rbj), (aM g cn 7 (he_ro 7 r3)), (aM g br 7 (he_ro 7 r4))] ++ he_pl g L ln (va_up Mj (r4 nt) (upd (Mj (r4 nt)) i3 (rbj i3)))) := hD
                                        refine lv_aload_n hx hb dX11_contract_240 rfl (lv_at hl 0 rfl) ?_
                                        refine va_get (v := .ref rk) (T := TX11) (N := 35) hx hb hts inX11 hown hK hP 0 rfl rfl 15 (by decide) f34 (fun _ h9 => h9) rfl dX11_contract_241 ?_
                                        refine lv_bipush (v := 6) hx hb dX11_contract_244 (by decide) ?_
                                        refine lv_dup2_11 hx hb dX11_contract_246 rfl rfl ?_
                                        refine he_iald hx hb hK hP 3 rfl (6) (by decide) (by decide) (by first | decide | assumption) (rkj3 6) rfl dX11_contract_247 ?_
                                        refine lv_aload_n hx hb dX11_contract_248 rfl (lv_at hl 0 rfl) ?_
                                        refine va_get (v := .ref rb) (T := TX11) (N := 35) hx hb hts inX11 hown hK hP 0 rfl rfl 16 (by decide) f37 (fun _ h9 => h9) rfl dX11_contract_249 ?_
                                        refine lv_iload_n hx hb dX11_contract_252 rfl (lv_at hl 2 rfl) ?_
                                        refine he_iald hx hb hK hP 4 rfl (i3) rfl (by first | assumption | decide | omega) (by first | decide | assumption) (rbj i3) rfl dX11_contract_253 ?_
                                        refine lv_iconst (v := (-1)) hx hb dX11_contract_254 (by decide) ?_
                                        refine lv_icmp_ne (tgt := 262) hx hb dX11_contract_255 (by decide) (fun c_38 => ?_) (fun c_38 => ?_)
                                        · refine lv_iconst (v := 1) hx hb dX11_contract_262 (by decide) ?_
                                          refine lv_iadd hx hb dX11_contract_263 ?_
                                          refine he_iast hx hb hK hP hD hS 3 rfl (6) (by decide) (by decide) (by first | decide | assumption) dX11_contract_264 (fun H locs hP hD hS => ?_)
                                          have hP : va_P g.1 vwCl ([(oX11 m0 0 0 (nI n) fg (nI kj) fj fg (nI cj) fd rfm rt_ to_ rw_ wa (nI nt) rk rb cn br sm as_ go sh_ ir oa ob th ig sp_ ki tg of_ kp sf rs), (aI g fd 500 fb), (aI g to_ 25 tl), (aI g rk 7 (upd rkj3 6 ((rkj3 6) + 1))), (aI g rb 36 rbj), (aM g cn 7 (he_ro 7 r3)), (aM g br 7 (he_ro 7 r4))] ++ he_pl g L ln (va_up Mj (r4 nt) (upd (Mj (r4 nt)) i3 (rbj i3)))) H := hP
                                          have hD : va_D A ([(oX11 m0 0 0 (nI n) fg (nI kj) fj fg (nI cj) fd rfm rt_ to_ rw_ wa (nI nt) rk rb cn br sm as_ go sh_ ir oa ob th ig sp_ ki tg of_ kp sf rs), (aI g fd 500 fb), (aI g to_ 25 tl), (aI g rk 7 (upd rkj3 6 ((rkj3 6) + 1))), (aI g rb 36 rbj), (aM g cn 7 (he_ro 7 r3)), (aM g br 7 (he_ro 7 r4))] ++ he_pl g L ln (va_up Mj (r4 nt) (upd (Mj (r4 nt)) i3 (rbj i3)))) := hD
                                          refine lv_iinc (v := nI (i3 + 1)) (lv' := [(2, .int (nI (i3 + 1))), (0, .ref m0), (1, .int (nI n))]) hx hb dX11_contract_265 hl (k := 2) rfl (nI_1 i3) (by decide) rfl (fun ls hl => ?_)
                                          refine lv_goto (tgt := 217) hx hb dX11_contract_268 (by decide) ?_
                                          exact ih217 (i3 + 1) (upd rkj3 6 ((rkj3 6) + 1)) (va_up Mj (r4 nt) (upd (Mj (r4 nt)) i3 (rbj i3))) (by omega) (by omega) (cOk_upd hck (fun e9 => absurd e9 (by decide)) (fun e9 => absurd e9 (by decide)) (fun e9 => absurd e9 (by decide))) hbk (rFill_s hy) (fun b hb => by rw [upd_n (by omega)]; exact hk9 b hb) (by rw [upd_s, hk6, cnF_n c_38]; exact nI_1 _) _ _ _ hP hD hS (lv_sub hl [1, 2, 0] rfl)
                                        · refine lv_iconst (v := 0) hx hb dX11_contract_258 (by decide) ?_
                                          refine lv_goto (tgt := 263) hx hb dX11_contract_259 (by decide) ?_
                                          refine lv_iadd hx hb dX11_contract_263 ?_
                                          refine he_iast hx hb hK hP hD hS 3 rfl (6) (by decide) (by decide) (by first | decide | assumption) dX11_contract_264 (fun H locs hP hD hS => ?_)
                                          have hP : va_P g.1 vwCl ([(oX11 m0 0 0 (nI n) fg (nI kj) fj fg (nI cj) fd rfm rt_ to_ rw_ wa (nI nt) rk rb cn br sm as_ go sh_ ir oa ob th ig sp_ ki tg of_ kp sf rs), (aI g fd 500 fb), (aI g to_ 25 tl), (aI g rk 7 (upd rkj3 6 ((rkj3 6) + 0))), (aI g rb 36 rbj), (aM g cn 7 (he_ro 7 r3)), (aM g br 7 (he_ro 7 r4))] ++ he_pl g L ln (va_up Mj (r4 nt) (upd (Mj (r4 nt)) i3 (rbj i3)))) H := hP
                                          have hD : va_D A ([(oX11 m0 0 0 (nI n) fg (nI kj) fj fg (nI cj) fd rfm rt_ to_ rw_ wa (nI nt) rk rb cn br sm as_ go sh_ ir oa ob th ig sp_ ki tg of_ kp sf rs), (aI g fd 500 fb), (aI g to_ 25 tl), (aI g rk 7 (upd rkj3 6 ((rkj3 6) + 0))), (aI g rb 36 rbj), (aM g cn 7 (he_ro 7 r3)), (aM g br 7 (he_ro 7 r4))] ++ he_pl g L ln (va_up Mj (r4 nt) (upd (Mj (r4 nt)) i3 (rbj i3)))) := hD
                                          refine lv_iinc (v := nI (i3 + 1)) (lv' := [(2, .int (nI (i3 + 1))), (0, .ref m0), (1, .int (nI n))]) hx hb dX11_contract_265 hl (k := 2) rfl (nI_1 i3) (by decide) rfl (fun ls hl => ?_)
                                          refine lv_goto (tgt := 217) hx hb dX11_contract_268 (by decide) ?_
                                          exact ih217 (i3 + 1) (upd rkj3 6 ((rkj3 6) + 0)) (va_up Mj (r4 nt) (upd (Mj (r4 nt)) i3 (rbj i3))) (by omega) (by omega) (cOk_upd hck (fun e9 => absurd e9 (by decide)) (fun e9 => absurd e9 (by decide)) (fun e9 => absurd e9 (by decide))) hbk (rFill_s hy) (fun b hb => by rw [upd_n (by omega)]; exact hk9 b hb) (by rw [upd_s, hk6, cnF_e c_38]; exact Int32.add_zero _) _ _ _ hP hD hS (lv_sub hl [1, 2, 0] rfl)
                                  exact loop217 ((36 - 0) + 1) 0 (upd rkj 1 (rkj 0)) M (Nat.lt_succ_self _) (Nat.zero_le _) (cOk_upd hcb1 (fun e9 => absurd e9 (by decide)) (fun e9 => absurd e9 (by decide)) (fun e9 => absurd e9 (by decide))) hcb2 (rFill_0 _ _ _) (ct_i9 (by rw [if_pos c_24])) (by rw [upd_n (by decide), hRK]; exact rl_6 _ _) _ _ _ hP hD hS (lv_sub hl [1, 2, 0] rfl)
                              · exact absurd c_19 c_23
                            · have k_39 : ¬ (n ≤ kj) := fun h9 => c_21 ((he_cle (a := n) (b := kj) rfl rfl (by omega) (by omega)).mpr h9)
                              refine lv_aload_n hx hb dX11_contract_150 rfl (lv_at hl 0 rfl) ?_
                              refine he_cv (wc := [(oX11 m0 0 0 (nI n) (-1) (nI kj) fj fg (nI cj) fd rfm rt_ to_ rw_ wa (nI nt) rk rb cn br sm as_ go sh_ ir oa ob th ig sp_ ki tg of_ kp sf rs), (aI g fd 500 fb), (aI g to_ 25 tl), (aI g rk 7 rkj), (aI g rb 36 rbj)]) (wr := ([(aM g cn 7 (he_ro 7 r3)), (aM g br 7 (he_ro 7 r4))] ++ (he_pl g L ln M))) (va_runV (As := []) (rest := []) ⟨hx, hb, hml, hown, hts⟩ (q_X11_rules l g m0 fd rfm rt_ to_ rw_ wa rk rb cn br sm as_ go sh_ ki tg of_ kp rs 0 (-1) (nI nt) ir oa ob th ig sp_ sf 0 n kj fg cj fb tl rkj rbj w T fj (by omega) hkj c_19 (by first | assumption | decide | omega) hbl htl hw6 hcj H.size) (cwV 0 hts gX11_contract_X11_rules rfl rfl rfl (by decide +kernel) ⟨Nat.le_of_ble_eq_true rfl, Nat.le_of_ble_eq_true rfl⟩) (he_preV (wc := [(oX11 m0 0 0 (nI n) (-1) (nI kj) fj fg (nI cj) fd rfm rt_ to_ rw_ wa (nI nt) rk rb cn br sm as_ go sh_ ir oa ob th ig sp_ ki tg of_ kp sf rs), (aI g fd 500 fb), (aI g to_ 25 tl), (aI g rk 7 rkj), (aI g rb 36 rbj)]) hK hP hD hS hA hE [0, 1, 2, 3, 4] rfl rfl 0 rfl rfl) rfl rfl hl.1 rfl (lv_room (Nat.le_of_ble_eq_true rfl)) dX11_contract_151 ⟨(Nat.le_of_ble_eq_true rfl), (Nat.le_of_ble_eq_true rfl)⟩) hP hD hS hA [0, 1, 2, 3, 4] (he_is [5, 6] [(oX11 m0 0 0 (nI n) (-1) (nI kj) fj fg (nI cj) fd rfm rt_ to_ rw_ wa (nI nt) rk rb cn br sm as_ go sh_ ir oa ob th ig sp_ ki tg of_ kp sf rs), (aI g fd 500 fb), (aI g to_ 25 tl), (aI g rk 7 rkj), (aI g rb 36 rbj), (aM g cn 7 (he_ro 7 r3)), (aM g br 7 (he_ro 7 r4))] (he_pl g L ln M)) rfl (he_ixP rfl) (he_ndP rfl rfl) (he_disN (by decide) rfl) (fun u_41 H locs h_42 hP hD hS => ?_)
                              have hP := va_P.swap hP
                              have hD := va_D.swap hD
                              obtain ⟨k2_43, fb2_44, fw2_45, cs2_46, rk2_47, rb2_48⟩ := u_41
                              try dsimp only at h_42
                              obtain ⟨hf_49, hf_50, hf_51⟩ := h_42
                              have hP : va_P g.1 vwCl ([(aM g cn 7 (he_ro 7 r3)), (aM g br 7 (he_ro 7 r4)), (oX11 m0 0 0 (nI n) (-1) (nI k2_43) fb2_44 fw2_45 (nI cs2_46) fd rfm rt_ to_ rw_ wa (nI nt) rk rb cn br sm as_ go sh_ ir oa ob th ig sp_ ki tg of_ kp sf rs), (aI g fd 500 fb), (aI g to_ 25 tl), (aI g rk 7 rk2_47), (aI g rb 36 rb2_48)] ++ he_pl g L ln M) H := hP
                              have hD : va_D A ([(aM g cn 7 (he_ro 7 r3)), (aM g br 7 (he_ro 7 r4)), (oX11 m0 0 0 (nI n) (-1) (nI k2_43) fb2_44 fw2_45 (nI cs2_46) fd rfm rt_ to_ rw_ wa (nI nt) rk rb cn br sm as_ go sh_ ir oa ob th ig sp_ ki tg of_ kp sf rs), (aI g fd 500 fb), (aI g to_ 25 tl), (aI g rk 7 rk2_47), (aI g rb 36 rb2_48)] ++ he_pl g L ln M) := hD
                              have hD3 := ct_D (by omega) hbl hg0 hX1 hXd hXb hcj hf_49 hf_50
                              refine lv_aload_n hx hb dX11_contract_154 rfl (lv_at hl 0 rfl) ?_
                              refine he_cv (wc := [(oX11 m0 0 0 (nI n) (-1) (nI k2_43) fb2_44 fw2_45 (nI cs2_46) fd rfm rt_ to_ rw_ wa (nI nt) rk rb cn br sm as_ go sh_ ir oa ob th ig sp_ ki tg of_ kp sf rs), (aI g fd 500 fb)]) (wr := ([(aM g cn 7 (he_ro 7 r3)), (aM g br 7 (he_ro 7 r4)), (aI g to_ 25 tl), (aI g rk 7 rk2_47), (aI g rb 36 rb2_48)] ++ (he_pl g L ln M))) (va_runV (As := []) (rest := []) ⟨hx, hb, hml, hown, hts⟩ (q_X11_blanks l g m0 fd rfm rt_ to_ rw_ wa rk rb cn br sm as_ go sh_ ki tg of_ kp rs 0 (-1) (nI cs2_46) (nI nt) ir oa ob th ig sp_ sf 0 n k2_43 fb2_44 fw2_45 fb T (by omega) hf_49 (by first | assumption | decide | omega) H.size) (cwV 0 hts gX11_contract_X11_blanks rfl rfl rfl (by decide +kernel) ⟨Nat.le_of_ble_eq_true rfl, Nat.le_of_ble_eq_true rfl⟩) (he_preV (wc := [(oX11 m0 0 0 (nI n) (-1) (nI k2_43) fb2_44 fw2_45 (nI cs2_46) fd rfm rt_ to_ rw_ wa (nI nt) rk rb cn br sm as_ go sh_ ir oa ob th ig sp_ ki tg of_ kp sf rs), (aI g fd 500 fb)]) hK hP hD hS hA hE [2, 3] rfl rfl 2 rfl rfl) rfl rfl hl.1 rfl (lv_room (Nat.le_of_ble_eq_true rfl)) dX11_contract_155 ⟨(Nat.le_of_ble_eq_true rfl), (Nat.le_of_ble_eq_true rfl)⟩) hP hD hS hA [2, 3] (he_is [0, 1, 4, 5, 6] [(aM g cn 7 (he_ro 7 r3)), (aM g br 7 (he_ro 7 r4)), (oX11 m0 0 0 (nI n) (-1) (nI k2_43) fb2_44 fw2_45 (nI cs2_46) fd rfm rt_ to_ rw_ wa (nI nt) rk rb cn br sm as_ go sh_ ir oa ob th ig sp_ ki tg of_ kp sf rs), (aI g fd 500 fb), (aI g to_ 25 tl), (aI g rk 7 rk2_47), (aI g rb 36 rb2_48)] (he_pl g L ln M)) rfl (he_ixP rfl) (he_ndP rfl rfl) (he_disN (by decide) rfl) (fun u_53 H locs h_54 hP hD hS => ?_)
                              have hP := va_P.swap hP
                              have hD := va_D.swap hD
                              have hP : va_P g.1 vwCl ([(aM g cn 7 (he_ro 7 r3)), (aM g br 7 (he_ro 7 r4)), (aI g to_ 25 tl), (aI g rk 7 rk2_47), (aI g rb 36 rb2_48), (oX11 m0 0 0 (nI n) (-1) (nI (rn isBl T n k2_43)) fb2_44 fw2_45 (nI cs2_46) fd rfm rt_ to_ rw_ wa (nI nt) rk rb cn br sm as_ go sh_ ir oa ob th ig sp_ ki tg of_ kp sf rs), (aI g fd 500 fb)] ++ he_pl g L ln M) H := hP
                              have hD : va_D A ([(aM g cn 7 (he_ro 7 r3)), (aM g br 7 (he_ro 7 r4)), (aI g to_ 25 tl), (aI g rk 7 rk2_47), (aI g rb 36 rb2_48), (oX11 m0 0 0 (nI n) (-1) (nI (rn isBl T n k2_43)) fb2_44 fw2_45 (nI cs2_46) fd rfm rt_ to_ rw_ wa (nI nt) rk rb cn br sm as_ go sh_ ir oa ob th ig sp_ ki tg of_ kp sf rs), (aI g fd 500 fb)] ++ he_pl g L ln M) := hD
                              refine lv_goto (tgt := 132) hx hb dX11_contract_158 (by decide) ?_
                              have hP := he_Psub (X := [(aM g cn 7 (he_ro 7 r3)), (aM g br 7 (he_ro 7 r4)), (aI g to_ 25 tl), (aI g rk 7 rk2_47), (aI g rb 36 rb2_48), (oX11 m0 0 0 (nI n) (-1) (nI (rn isBl T n k2_43)) fb2_44 fw2_45 (nI cs2_46) fd rfm rt_ to_ rw_ wa (nI nt) rk rb cn br sm as_ go sh_ ir oa ob th ig sp_ ki tg of_ kp sf rs), (aI g fd 500 fb)]) (X2 := [(oX11 m0 0 0 (nI n) (-1) (nI (rn isBl T n k2_43)) fb2_44 fw2_45 (nI cs2_46) fd rfm rt_ to_ rw_ wa (nI nt) rk rb cn br sm as_ go sh_ ir oa ob th ig sp_ ki tg of_ kp sf rs), (aI g fd 500 fb), (aI g to_ 25 tl), (aI g rk 7 rk2_47), (aI g rb 36 rb2_48), (aM g cn 7 (he_ro 7 r3)), (aM g br 7 (he_ro 7 r4))]) (P := (he_pl g L ln M)) hP [5, 6, 2, 3, 4, 0, 1] rfl
                              have hD := he_Dsub (X := [(aM g cn 7 (he_ro 7 r3)), (aM g br 7 (he_ro 7 r4)), (aI g to_ 25 tl), (aI g rk 7 rk2_47), (aI g rb 36 rb2_48), (oX11 m0 0 0 (nI n) (-1) (nI (rn isBl T n k2_43)) fb2_44 fw2_45 (nI cs2_46) fd rfm rt_ to_ rw_ wa (nI nt) rk rb cn br sm as_ go sh_ ir oa ob th ig sp_ ki tg of_ kp sf rs), (aI g fd 500 fb)]) (X2 := [(oX11 m0 0 0 (nI n) (-1) (nI (rn isBl T n k2_43)) fb2_44 fw2_45 (nI cs2_46) fd rfm rt_ to_ rw_ wa (nI nt) rk rb cn br sm as_ go sh_ ir oa ob th ig sp_ ki tg of_ kp sf rs), (aI g fd 500 fb), (aI g to_ 25 tl), (aI g rk 7 rk2_47), (aI g rb 36 rb2_48), (aM g cn 7 (he_ro 7 r3)), (aM g br 7 (he_ro 7 r4))]) (P := (he_pl g L ln M)) hD [5, 6, 2, 3, 4, 0, 1] rfl rfl rfl
                              exact ih132 (rn isBl T n k2_43) fb2_44 fw2_45 cs2_46 rk2_47 rb2_48 (lp_meas5 c_19 hD3.2 hf_51 hcj hm9) (rn_le hf_49) hf_51 hD3.1 _ _ _ hP hD hS (lv_sub hl [0, 1] rfl)
                      exact loop132 (((if 0 = 0 then 21 - 0 else 0)) + 1) (rn isBl T n 0) 0 (-1) 0 (flF iniF rk_ 7) (flF (fun _ => -1) rb_ 36) (Nat.lt_succ_self _) (rn_le (Nat.zero_le _)) (by decide) (Or.inl ⟨0, rfl, rfl, rn_id isBl (Nat.zero_le _), by rw [tx_b (Nat.zero_le _)], by rw [tx_b (Nat.zero_le _)], by rw [tx_b (Nat.zero_le _)]⟩) _ _ _ hP hD hS (lv_sub hl [0, 1] rfl)
                    · have k_55 : ¬ (36 ≤ i2) := fun h9 => c_17 ((he_cle (a := 36) (b := i2) (by decide) rfl (by omega) (by omega)).mpr h9)
                      refine lv_aload_n hx hb dX11_contract_119 rfl (lv_at hl 0 rfl) ?_
                      refine va_get (v := .ref rb) (T := TX11) (N := 35) hx hb hts inX11 hown hK hP 0 rfl rfl 16 (by decide) f37 (fun _ h9 => h9) rfl dX11_contract_120 ?_
                      refine lv_iload_n hx hb dX11_contract_123 rfl (lv_at hl 2 rfl) ?_
                      refine lv_iconst (v := (-1)) hx hb dX11_contract_124 (by decide) ?_
                      refine he_iast hx hb hK hP hD hS 4 rfl (i2) rfl (by first | assumption | decide | omega) (by first | decide | assumption) dX11_contract_125 (fun H locs hP hD hS => ?_)
                      have hP : va_P g.1 vwCl ([(oX11 m0 0 0 (nI n) (-1) (nI (rn isBl T n 0)) 0 (-1) 0 fd rfm rt_ to_ rw_ wa (nI nt) rk rb cn br sm as_ go sh_ ir oa ob th ig sp_ ki tg of_ kp sf rs), (aI g fd 500 fb), (aI g to_ 25 tl), (aI g rk 7 (flF iniF rk_ 7)), (aI g rb 36 (upd (flF (fun _ => -1) rb_ i2) i2 (-1))), (aM g cn 7 (he_ro 7 r3)), (aM g br 7 (he_ro 7 r4))] ++ he_pl g L ln M) H := hP
                      have hD : va_D A ([(oX11 m0 0 0 (nI n) (-1) (nI (rn isBl T n 0)) 0 (-1) 0 fd rfm rt_ to_ rw_ wa (nI nt) rk rb cn br sm as_ go sh_ ir oa ob th ig sp_ ki tg of_ kp sf rs), (aI g fd 500 fb), (aI g to_ 25 tl), (aI g rk 7 (flF iniF rk_ 7)), (aI g rb 36 (upd (flF (fun _ => -1) rb_ i2) i2 (-1))), (aM g cn 7 (he_ro 7 r3)), (aM g br 7 (he_ro 7 r4))] ++ he_pl g L ln M) := hD
                      refine lv_iinc (v := nI (i2 + 1)) (lv' := [(2, .int (nI (i2 + 1))), (0, .ref m0), (1, .int (nI n))]) hx hb dX11_contract_126 hl (k := 2) rfl (nI_1 i2) (by decide) rfl (fun ls hl => ?_)
                      refine lv_goto (tgt := 113) hx hb dX11_contract_129 (by decide) ?_
                      have hP : va_P g.1 vwCl ([(oX11 m0 0 0 (nI n) (-1) (nI (rn isBl T n 0)) 0 (-1) 0 fd rfm rt_ to_ rw_ wa (nI nt) rk rb cn br sm as_ go sh_ ir oa ob th ig sp_ ki tg of_ kp sf rs), (aI g fd 500 fb), (aI g to_ 25 tl), (aI g rk 7 (flF iniF rk_ 7)), (aI g rb 36 (flF (fun _ => -1) rb_ (i2 + 1))), (aM g cn 7 (he_ro 7 r3)), (aM g br 7 (he_ro 7 r4))] ++ he_pl g L ln M) H := by rw [← flF_s (fun _ => -1) rb_ i2]; exact hP
                      have hD : va_D A ([(oX11 m0 0 0 (nI n) (-1) (nI (rn isBl T n 0)) 0 (-1) 0 fd rfm rt_ to_ rw_ wa (nI nt) rk rb cn br sm as_ go sh_ ir oa ob th ig sp_ ki tg of_ kp sf rs), (aI g fd 500 fb), (aI g to_ 25 tl), (aI g rk 7 (flF iniF rk_ 7)), (aI g rb 36 (flF (fun _ => -1) rb_ (i2 + 1))), (aM g cn 7 (he_ro 7 r3)), (aM g br 7 (he_ro 7 r4))] ++ he_pl g L ln M) := by rw [← flF_s (fun _ => -1) rb_ i2]; exact hD
                      exact ih113 (i2 + 1) (by omega) (by omega) _ _ _ hP hD hS (lv_sub hl [1, 2, 0] rfl)
                have hP : va_P g.1 vwCl ([(oX11 m0 0 0 (nI n) (-1) (nI (rn isBl T n 0)) 0 (-1) 0 fd rfm rt_ to_ rw_ wa (nI nt) rk rb cn br sm as_ go sh_ ir oa ob th ig sp_ ki tg of_ kp sf rs), (aI g fd 500 fb), (aI g to_ 25 tl), (aI g rk 7 (flF iniF rk_ 7)), (aI g rb 36 (flF (fun _ => -1) rb_ 0)), (aM g cn 7 (he_ro 7 r3)), (aM g br 7 (he_ro 7 r4))] ++ he_pl g L ln M) H := by rw [flF_0]; exact hP
                have hD : va_D A ([(oX11 m0 0 0 (nI n) (-1) (nI (rn isBl T n 0)) 0 (-1) 0 fd rfm rt_ to_ rw_ wa (nI nt) rk rb cn br sm as_ go sh_ ir oa ob th ig sp_ ki tg of_ kp sf rs), (aI g fd 500 fb), (aI g to_ 25 tl), (aI g rk 7 (flF iniF rk_ 7)), (aI g rb 36 (flF (fun _ => -1) rb_ 0)), (aM g cn 7 (he_ro 7 r3)), (aM g br 7 (he_ro 7 r4))] ++ he_pl g L ln M) := by rw [flF_0]; exact hD
                exact loop113 ((36 - 0) + 1) 0 (Nat.lt_succ_self _) (Nat.zero_le _) _ _ _ hP hD hS (lv_sub hl [1, 2, 0] rfl)
              · have k_56 : ¬ (7 ≤ i1) := fun h9 => c_15 ((he_cle (a := 7) (b := i1) (by decide) rfl (by omega) (by omega)).mpr h9)
                refine lv_aload_n hx hb dX11_contract_69 rfl (lv_at hl 0 rfl) ?_
                refine va_get (v := .ref rk) (T := TX11) (N := 35) hx hb hts inX11 hown hK hP 0 rfl rfl 15 (by decide) f34 (fun _ h9 => h9) rfl dX11_contract_70 ?_
                refine lv_iload_n hx hb dX11_contract_73 rfl (lv_at hl 2 rfl) ?_
                refine lv_iload_n hx hb dX11_contract_74 rfl (lv_at hl 2 rfl) ?_
                refine lv_iconst (v := 1) hx hb dX11_contract_75 (by decide) ?_
                refine lv_icmp_ne (tgt := 83) hx hb dX11_contract_76 (by decide) (fun c_57 => ?_) (fun c_57 => ?_)
                · have k_58 : ¬ (i1 = 1) := fun h9 => c_57 ((he_ceq (a := i1) (b := 1) rfl (by decide) (by omega) (by omega)).mpr h9)
                  refine lv_iload_n hx hb dX11_contract_83 rfl (lv_at hl 2 rfl) ?_
                  refine lv_iconst (v := 2) hx hb dX11_contract_84 (by decide) ?_
                  refine lv_icmp_ne (tgt := 93) hx hb dX11_contract_85 (by decide) (fun c_59 => ?_) (fun c_59 => ?_)
                  · have k_60 : ¬ (i1 = 2) := fun h9 => c_59 ((he_ceq (a := i1) (b := 2) rfl (by decide) (by omega) (by omega)).mpr h9)
                    refine lv_iload_n hx hb dX11_contract_93 rfl (lv_at hl 2 rfl) ?_
                    refine lv_iconst (v := 5) hx hb dX11_contract_94 (by decide) ?_
                    refine lv_icmp_ne (tgt := 103) hx hb dX11_contract_95 (by decide) (fun c_61 => ?_) (fun c_61 => ?_)
                    · have k_62 : ¬ (i1 = 5) := fun h9 => c_61 ((he_ceq (a := i1) (b := 5) rfl (by decide) (by omega) (by omega)).mpr h9)
                      refine lv_iconst (v := 0) hx hb dX11_contract_103 (by decide) ?_
                      refine he_iast hx hb hK hP hD hS 3 rfl (i1) rfl (by first | assumption | decide | omega) (by first | decide | assumption) dX11_contract_104 (fun H locs hP hD hS => ?_)
                      have hP : va_P g.1 vwCl ([(oX11 m0 0 0 (nI n) (-1) (nI (rn isBl T n 0)) 0 (-1) 0 fd rfm rt_ to_ rw_ wa (nI nt) rk rb cn br sm as_ go sh_ ir oa ob th ig sp_ ki tg of_ kp sf rs), (aI g fd 500 fb), (aI g to_ 25 tl), (aI g rk 7 (upd (flF iniF rk_ i1) i1 0)), (aI g rb 36 rb_), (aM g cn 7 (he_ro 7 r3)), (aM g br 7 (he_ro 7 r4))] ++ he_pl g L ln M) H := hP
                      have hD : va_D A ([(oX11 m0 0 0 (nI n) (-1) (nI (rn isBl T n 0)) 0 (-1) 0 fd rfm rt_ to_ rw_ wa (nI nt) rk rb cn br sm as_ go sh_ ir oa ob th ig sp_ ki tg of_ kp sf rs), (aI g fd 500 fb), (aI g to_ 25 tl), (aI g rk 7 (upd (flF iniF rk_ i1) i1 0)), (aI g rb 36 rb_), (aM g cn 7 (he_ro 7 r3)), (aM g br 7 (he_ro 7 r4))] ++ he_pl g L ln M) := hD
                      have hn9 : upd (flF iniF rk_ i1) i1 0 = flF iniF rk_ (i1 + 1) := (by rw [← flF_s]; congr 1; unfold iniF; (repeat' split) <;> first | rfl | omega)
                      rw [hn9] at hP hD
                      have hP : va_P g.1 vwCl ([(oX11 m0 0 0 (nI n) (-1) (nI (rn isBl T n 0)) 0 (-1) 0 fd rfm rt_ to_ rw_ wa (nI nt) rk rb cn br sm as_ go sh_ ir oa ob th ig sp_ ki tg of_ kp sf rs), (aI g fd 500 fb), (aI g to_ 25 tl), (aI g rk 7 (flF iniF rk_ (i1 + 1))), (aI g rb 36 rb_), (aM g cn 7 (he_ro 7 r3)), (aM g br 7 (he_ro 7 r4))] ++ he_pl g L ln M) H := hP
                      have hD : va_D A ([(oX11 m0 0 0 (nI n) (-1) (nI (rn isBl T n 0)) 0 (-1) 0 fd rfm rt_ to_ rw_ wa (nI nt) rk rb cn br sm as_ go sh_ ir oa ob th ig sp_ ki tg of_ kp sf rs), (aI g fd 500 fb), (aI g to_ 25 tl), (aI g rk 7 (flF iniF rk_ (i1 + 1))), (aI g rb 36 rb_), (aM g cn 7 (he_ro 7 r3)), (aM g br 7 (he_ro 7 r4))] ++ he_pl g L ln M) := hD
                      refine lv_iinc (v := nI (i1 + 1)) (lv' := [(2, .int (nI (i1 + 1))), (0, .ref m0), (1, .int (nI n))]) hx hb dX11_contract_105 hl (k := 2) rfl (nI_1 i1) (by decide) rfl (fun ls hl => ?_)
                      refine lv_goto (tgt := 63) hx hb dX11_contract_108 (by decide) ?_
                      exact ih63 (i1 + 1) (by omega) (by omega) _ _ _ hP hD hS (lv_sub hl [1, 2, 0] rfl)
                    · have k_63 : i1 = 5 := (he_ceq (a := i1) (b := 5) rfl (by decide) (by omega) (by omega)).mp c_61
                      refine lv_bipush (v := 36) hx hb dX11_contract_98 (by decide) ?_
                      refine lv_goto (tgt := 104) hx hb dX11_contract_100 (by decide) ?_
                      refine he_iast hx hb hK hP hD hS 3 rfl (i1) rfl (by first | assumption | decide | omega) (by first | decide | assumption) dX11_contract_104 (fun H locs hP hD hS => ?_)
                      have hP : va_P g.1 vwCl ([(oX11 m0 0 0 (nI n) (-1) (nI (rn isBl T n 0)) 0 (-1) 0 fd rfm rt_ to_ rw_ wa (nI nt) rk rb cn br sm as_ go sh_ ir oa ob th ig sp_ ki tg of_ kp sf rs), (aI g fd 500 fb), (aI g to_ 25 tl), (aI g rk 7 (upd (flF iniF rk_ i1) i1 36)), (aI g rb 36 rb_), (aM g cn 7 (he_ro 7 r3)), (aM g br 7 (he_ro 7 r4))] ++ he_pl g L ln M) H := hP
                      have hD : va_D A ([(oX11 m0 0 0 (nI n) (-1) (nI (rn isBl T n 0)) 0 (-1) 0 fd rfm rt_ to_ rw_ wa (nI nt) rk rb cn br sm as_ go sh_ ir oa ob th ig sp_ ki tg of_ kp sf rs), (aI g fd 500 fb), (aI g to_ 25 tl), (aI g rk 7 (upd (flF iniF rk_ i1) i1 36)), (aI g rb 36 rb_), (aM g cn 7 (he_ro 7 r3)), (aM g br 7 (he_ro 7 r4))] ++ he_pl g L ln M) := hD
                      have hn9 : upd (flF iniF rk_ i1) i1 36 = flF iniF rk_ (i1 + 1) := (by rw [← flF_s]; congr 1; unfold iniF; (repeat' split) <;> first | rfl | omega)
                      rw [hn9] at hP hD
                      have hP : va_P g.1 vwCl ([(oX11 m0 0 0 (nI n) (-1) (nI (rn isBl T n 0)) 0 (-1) 0 fd rfm rt_ to_ rw_ wa (nI nt) rk rb cn br sm as_ go sh_ ir oa ob th ig sp_ ki tg of_ kp sf rs), (aI g fd 500 fb), (aI g to_ 25 tl), (aI g rk 7 (flF iniF rk_ (i1 + 1))), (aI g rb 36 rb_), (aM g cn 7 (he_ro 7 r3)), (aM g br 7 (he_ro 7 r4))] ++ he_pl g L ln M) H := hP
                      have hD : va_D A ([(oX11 m0 0 0 (nI n) (-1) (nI (rn isBl T n 0)) 0 (-1) 0 fd rfm rt_ to_ rw_ wa (nI nt) rk rb cn br sm as_ go sh_ ir oa ob th ig sp_ ki tg of_ kp sf rs), (aI g fd 500 fb), (aI g to_ 25 tl), (aI g rk 7 (flF iniF rk_ (i1 + 1))), (aI g rb 36 rb_), (aM g cn 7 (he_ro 7 r3)), (aM g br 7 (he_ro 7 r4))] ++ he_pl g L ln M) := hD
                      refine lv_iinc (v := nI (i1 + 1)) (lv' := [(2, .int (nI (i1 + 1))), (0, .ref m0), (1, .int (nI n))]) hx hb dX11_contract_105 hl (k := 2) rfl (nI_1 i1) (by decide) rfl (fun ls hl => ?_)
                      refine lv_goto (tgt := 63) hx hb dX11_contract_108 (by decide) ?_
                      exact ih63 (i1 + 1) (by omega) (by omega) _ _ _ hP hD hS (lv_sub hl [1, 2, 0] rfl)
                  · have k_64 : i1 = 2 := (he_ceq (a := i1) (b := 2) rfl (by decide) (by omega) (by omega)).mp c_59
                    refine lv_bipush (v := 9) hx hb dX11_contract_88 (by decide) ?_
                    refine lv_goto (tgt := 104) hx hb dX11_contract_90 (by decide) ?_
                    refine he_iast hx hb hK hP hD hS 3 rfl (i1) rfl (by first | assumption | decide | omega) (by first | decide | assumption) dX11_contract_104 (fun H locs hP hD hS => ?_)
                    have hP : va_P g.1 vwCl ([(oX11 m0 0 0 (nI n) (-1) (nI (rn isBl T n 0)) 0 (-1) 0 fd rfm rt_ to_ rw_ wa (nI nt) rk rb cn br sm as_ go sh_ ir oa ob th ig sp_ ki tg of_ kp sf rs), (aI g fd 500 fb), (aI g to_ 25 tl), (aI g rk 7 (upd (flF iniF rk_ i1) i1 9)), (aI g rb 36 rb_), (aM g cn 7 (he_ro 7 r3)), (aM g br 7 (he_ro 7 r4))] ++ he_pl g L ln M) H := hP
                    have hD : va_D A ([(oX11 m0 0 0 (nI n) (-1) (nI (rn isBl T n 0)) 0 (-1) 0 fd rfm rt_ to_ rw_ wa (nI nt) rk rb cn br sm as_ go sh_ ir oa ob th ig sp_ ki tg of_ kp sf rs), (aI g fd 500 fb), (aI g to_ 25 tl), (aI g rk 7 (upd (flF iniF rk_ i1) i1 9)), (aI g rb 36 rb_), (aM g cn 7 (he_ro 7 r3)), (aM g br 7 (he_ro 7 r4))] ++ he_pl g L ln M) := hD
                    have hn9 : upd (flF iniF rk_ i1) i1 9 = flF iniF rk_ (i1 + 1) := (by rw [← flF_s]; congr 1; unfold iniF; (repeat' split) <;> first | rfl | omega)
                    rw [hn9] at hP hD
                    have hP : va_P g.1 vwCl ([(oX11 m0 0 0 (nI n) (-1) (nI (rn isBl T n 0)) 0 (-1) 0 fd rfm rt_ to_ rw_ wa (nI nt) rk rb cn br sm as_ go sh_ ir oa ob th ig sp_ ki tg of_ kp sf rs), (aI g fd 500 fb), (aI g to_ 25 tl), (aI g rk 7 (flF iniF rk_ (i1 + 1))), (aI g rb 36 rb_), (aM g cn 7 (he_ro 7 r3)), (aM g br 7 (he_ro 7 r4))] ++ he_pl g L ln M) H := hP
                    have hD : va_D A ([(oX11 m0 0 0 (nI n) (-1) (nI (rn isBl T n 0)) 0 (-1) 0 fd rfm rt_ to_ rw_ wa (nI nt) rk rb cn br sm as_ go sh_ ir oa ob th ig sp_ ki tg of_ kp sf rs), (aI g fd 500 fb), (aI g to_ 25 tl), (aI g rk 7 (flF iniF rk_ (i1 + 1))), (aI g rb 36 rb_), (aM g cn 7 (he_ro 7 r3)), (aM g br 7 (he_ro 7 r4))] ++ he_pl g L ln M) := hD
                    refine lv_iinc (v := nI (i1 + 1)) (lv' := [(2, .int (nI (i1 + 1))), (0, .ref m0), (1, .int (nI n))]) hx hb dX11_contract_105 hl (k := 2) rfl (nI_1 i1) (by decide) rfl (fun ls hl => ?_)
                    refine lv_goto (tgt := 63) hx hb dX11_contract_108 (by decide) ?_
                    exact ih63 (i1 + 1) (by omega) (by omega) _ _ _ hP hD hS (lv_sub hl [1, 2, 0] rfl)
                · have k_65 : i1 = 1 := (he_ceq (a := i1) (b := 1) rfl (by decide) (by omega) (by omega)).mp c_57
                  refine lv_iconst (v := (-1)) hx hb dX11_contract_79 (by decide) ?_
                  refine lv_goto (tgt := 104) hx hb dX11_contract_80 (by decide) ?_
                  refine he_iast hx hb hK hP hD hS 3 rfl (i1) rfl (by first | assumption | decide | omega) (by first | decide | assumption) dX11_contract_104 (fun H locs hP hD hS => ?_)
                  have hP : va_P g.1 vwCl ([(oX11 m0 0 0 (nI n) (-1) (nI (rn isBl T n 0)) 0 (-1) 0 fd rfm rt_ to_ rw_ wa (nI nt) rk rb cn br sm as_ go sh_ ir oa ob th ig sp_ ki tg of_ kp sf rs), (aI g fd 500 fb), (aI g to_ 25 tl), (aI g rk 7 (upd (flF iniF rk_ i1) i1 (-1))), (aI g rb 36 rb_), (aM g cn 7 (he_ro 7 r3)), (aM g br 7 (he_ro 7 r4))] ++ he_pl g L ln M) H := hP
                  have hD : va_D A ([(oX11 m0 0 0 (nI n) (-1) (nI (rn isBl T n 0)) 0 (-1) 0 fd rfm rt_ to_ rw_ wa (nI nt) rk rb cn br sm as_ go sh_ ir oa ob th ig sp_ ki tg of_ kp sf rs), (aI g fd 500 fb), (aI g to_ 25 tl), (aI g rk 7 (upd (flF iniF rk_ i1) i1 (-1))), (aI g rb 36 rb_), (aM g cn 7 (he_ro 7 r3)), (aM g br 7 (he_ro 7 r4))] ++ he_pl g L ln M) := hD
                  have hn9 : upd (flF iniF rk_ i1) i1 (-1) = flF iniF rk_ (i1 + 1) := (by rw [← flF_s]; congr 1; unfold iniF; (repeat' split) <;> first | rfl | omega)
                  rw [hn9] at hP hD
                  have hP : va_P g.1 vwCl ([(oX11 m0 0 0 (nI n) (-1) (nI (rn isBl T n 0)) 0 (-1) 0 fd rfm rt_ to_ rw_ wa (nI nt) rk rb cn br sm as_ go sh_ ir oa ob th ig sp_ ki tg of_ kp sf rs), (aI g fd 500 fb), (aI g to_ 25 tl), (aI g rk 7 (flF iniF rk_ (i1 + 1))), (aI g rb 36 rb_), (aM g cn 7 (he_ro 7 r3)), (aM g br 7 (he_ro 7 r4))] ++ he_pl g L ln M) H := hP
                  have hD : va_D A ([(oX11 m0 0 0 (nI n) (-1) (nI (rn isBl T n 0)) 0 (-1) 0 fd rfm rt_ to_ rw_ wa (nI nt) rk rb cn br sm as_ go sh_ ir oa ob th ig sp_ ki tg of_ kp sf rs), (aI g fd 500 fb), (aI g to_ 25 tl), (aI g rk 7 (flF iniF rk_ (i1 + 1))), (aI g rb 36 rb_), (aM g cn 7 (he_ro 7 r3)), (aM g br 7 (he_ro 7 r4))] ++ he_pl g L ln M) := hD
                  refine lv_iinc (v := nI (i1 + 1)) (lv' := [(2, .int (nI (i1 + 1))), (0, .ref m0), (1, .int (nI n))]) hx hb dX11_contract_105 hl (k := 2) rfl (nI_1 i1) (by decide) rfl (fun ls hl => ?_)
                  refine lv_goto (tgt := 63) hx hb dX11_contract_108 (by decide) ?_
                  exact ih63 (i1 + 1) (by omega) (by omega) _ _ _ hP hD hS (lv_sub hl [1, 2, 0] rfl)
          have hP : va_P g.1 vwCl ([(aI g to_ 25 tl), (aI g rk 7 (flF iniF rk_ 0)), (aI g rb 36 rb_), (aM g cn 7 (he_ro 7 r3)), (aM g br 7 (he_ro 7 r4)), (oX11 m0 0 0 (nI n) (-1) (nI (rn isBl T n 0)) 0 (-1) 0 fd rfm rt_ to_ rw_ wa (nI nt) rk rb cn br sm as_ go sh_ ir oa ob th ig sp_ ki tg of_ kp sf rs), (aI g fd 500 fb)] ++ he_pl g L ln M) H := by rw [flF_0]; exact hP
          have hD : va_D A ([(aI g to_ 25 tl), (aI g rk 7 (flF iniF rk_ 0)), (aI g rb 36 rb_), (aM g cn 7 (he_ro 7 r3)), (aM g br 7 (he_ro 7 r4)), (oX11 m0 0 0 (nI n) (-1) (nI (rn isBl T n 0)) 0 (-1) 0 fd rfm rt_ to_ rw_ wa (nI nt) rk rb cn br sm as_ go sh_ ir oa ob th ig sp_ ki tg of_ kp sf rs), (aI g fd 500 fb)] ++ he_pl g L ln M) := by rw [flF_0]; exact hD
          have hP := he_Psub (X := [(aI g to_ 25 tl), (aI g rk 7 (flF iniF rk_ 0)), (aI g rb 36 rb_), (aM g cn 7 (he_ro 7 r3)), (aM g br 7 (he_ro 7 r4)), (oX11 m0 0 0 (nI n) (-1) (nI (rn isBl T n 0)) 0 (-1) 0 fd rfm rt_ to_ rw_ wa (nI nt) rk rb cn br sm as_ go sh_ ir oa ob th ig sp_ ki tg of_ kp sf rs), (aI g fd 500 fb)]) (X2 := [(oX11 m0 0 0 (nI n) (-1) (nI (rn isBl T n 0)) 0 (-1) 0 fd rfm rt_ to_ rw_ wa (nI nt) rk rb cn br sm as_ go sh_ ir oa ob th ig sp_ ki tg of_ kp sf rs), (aI g fd 500 fb), (aI g to_ 25 tl), (aI g rk 7 (flF iniF rk_ 0)), (aI g rb 36 rb_), (aM g cn 7 (he_ro 7 r3)), (aM g br 7 (he_ro 7 r4))]) (P := (he_pl g L ln M)) hP [5, 6, 0, 1, 2, 3, 4] rfl
          have hD := he_Dsub (X := [(aI g to_ 25 tl), (aI g rk 7 (flF iniF rk_ 0)), (aI g rb 36 rb_), (aM g cn 7 (he_ro 7 r3)), (aM g br 7 (he_ro 7 r4)), (oX11 m0 0 0 (nI n) (-1) (nI (rn isBl T n 0)) 0 (-1) 0 fd rfm rt_ to_ rw_ wa (nI nt) rk rb cn br sm as_ go sh_ ir oa ob th ig sp_ ki tg of_ kp sf rs), (aI g fd 500 fb)]) (X2 := [(oX11 m0 0 0 (nI n) (-1) (nI (rn isBl T n 0)) 0 (-1) 0 fd rfm rt_ to_ rw_ wa (nI nt) rk rb cn br sm as_ go sh_ ir oa ob th ig sp_ ki tg of_ kp sf rs), (aI g fd 500 fb), (aI g to_ 25 tl), (aI g rk 7 (flF iniF rk_ 0)), (aI g rb 36 rb_), (aM g cn 7 (he_ro 7 r3)), (aM g br 7 (he_ro 7 r4))]) (P := (he_pl g L ln M)) hD [5, 6, 0, 1, 2, 3, 4] rfl rfl rfl
          exact loop63 ((7 - 0) + 1) 0 (Nat.lt_succ_self _) (Nat.zero_le _) _ _ _ hP hD hS (lv_sub hl [1, 2, 0] rfl)
        · have k_66 : nt = 6 := (he_ceq (a := nt) (b := 6) rfl (by decide) (by omega) (by omega)).mp c_13
          refine lv_iconst (v := (-1)) hx hb dX11_contract_59 (by decide) ?_
          have hP := he_Psub (X := [(aI g to_ 25 tl), (aI g rk 7 rk_), (aI g rb 36 rb_), (aM g cn 7 (he_ro 7 r3)), (aM g br 7 (he_ro 7 r4)), (oX11 m0 0 0 (nI n) (-1) (nI (rn isBl T n 0)) 0 (-1) 0 fd rfm rt_ to_ rw_ wa (nI nt) rk rb cn br sm as_ go sh_ ir oa ob th ig sp_ ki tg of_ kp sf rs), (aI g fd 500 fb)]) (X2 := [(oX11 m0 0 0 (nI n) (-1) (nI (rn isBl T n 0)) 0 (-1) 0 fd rfm rt_ to_ rw_ wa (nI nt) rk rb cn br sm as_ go sh_ ir oa ob th ig sp_ ki tg of_ kp sf rs), (aI g fd 500 fb), (aI g to_ 25 tl), (aI g rk 7 rk_), (aI g rb 36 rb_), (aM g cn 7 (he_ro 7 r3)), (aM g br 7 (he_ro 7 r4))]) (P := (he_pl g L ln M)) hP [5, 6, 0, 1, 2, 3, 4] rfl
          have hD := he_Dsub (X := [(aI g to_ 25 tl), (aI g rk 7 rk_), (aI g rb 36 rb_), (aM g cn 7 (he_ro 7 r3)), (aM g br 7 (he_ro 7 r4)), (oX11 m0 0 0 (nI n) (-1) (nI (rn isBl T n 0)) 0 (-1) 0 fd rfm rt_ to_ rw_ wa (nI nt) rk rb cn br sm as_ go sh_ ir oa ob th ig sp_ ki tg of_ kp sf rs), (aI g fd 500 fb)]) (X2 := [(oX11 m0 0 0 (nI n) (-1) (nI (rn isBl T n 0)) 0 (-1) 0 fd rfm rt_ to_ rw_ wa (nI nt) rk rb cn br sm as_ go sh_ ir oa ob th ig sp_ ki tg of_ kp sf rs), (aI g fd 500 fb), (aI g to_ 25 tl), (aI g rk 7 rk_), (aI g rb 36 rb_), (aM g cn 7 (he_ro 7 r3)), (aM g br 7 (he_ro 7 r4))]) (P := (he_pl g L ln M)) hD [5, 6, 0, 1, 2, 3, 4] rfl rfl rfl
          exact he_ri hQ hx hb hr hlk hP hD hS dX11_contract_60 (Nat.le_of_ble_eq_true rfl) (Nat.le_of_ble_eq_true rfl) ((nt, rn isBl T n 0, 0, (-1), 0, (-1), rk_, rb_, M)) (rfl) (by (try dsimp only); exact ⟨Or.inl ⟨rfl, rfl, Or.inl ⟨by (try dsimp only); omega, rfl⟩⟩, fun h9 => absurd h9 (by (try dsimp only); omega), fun _ => rfl, fun _ h9 => absurd h9 (by (try dsimp only); omega)⟩)
      · exact absurd (by decide) c_9
    · exact absurd ((he_cle (a := n) (b := 200) rfl (by decide) (by omega) (by decide)).mpr hn2) c_5
