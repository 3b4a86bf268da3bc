/-! the bounds of all that both sides stand for, and that every call keeps them -/
def okJ (w nt : Nat) (R : Rw) (im : (Nat → Nat) × Rw) : Prop := im.1 5 ≤ 120 ∧ bdF w (R 3) (im.2 5) ∧ nowG R nt (im.1 5) (im.2 5) ∧ ∀ t, t < im.1 5 → bdF w (R 3) (im.2 (40 + t)) ∧ nowG R nt t (im.2 (40 + t))
def okS (S : AbS) : Prop := okA (S.1 1) (S.1 2) (S.1 5) S.2.2.2.2 ∧ ∀ j, j < S.1 3 → okJ (S.1 1) (S.1 2) S.2.2.2.2 (S.2.2.2.1 j)
section OK
variable {S : AbS} {R R2 : Rw} {w nt n2 mm : Nat}
theorem nowG_n {F : Nat → Int32} {m : Nat} (h : nowG R nt m F) (he : ∀ c, c < nt → R2 (10 + c) = R (10 + c)) (hn : nt ≤ n2) : nowG R2 n2 m F := by
  rcases h with h | ⟨c, it, h1, h2, h3, h4, h5⟩
  · exact Or.inl h
  · exact Or.inr ⟨c, it, by omega, h2, h3, h4, by rw [he c h1]; exact h5⟩
theorem okJ_n {im : (Nat → Nat) × Rw} (h : okJ w nt R im) (he : ∀ c, c < nt → R2 (10 + c) = R (10 + c)) (h3 : R2 3 = R 3) (hn : nt ≤ n2) : okJ w n2 R2 im := by
  obtain ⟨a, b, c, d⟩ := h
  unfold okJ
  rw [h3]
  exact ⟨a, b, nowG_n c he hn, fun t ht => ⟨(d t ht).1, nowG_n (d t ht).2 he hn⟩⟩
theorem okN {i v : Nat} (hi : i = 0 ∨ i = 4) (h : okS S) : okS (sN S i v) := by
  have e : ∀ j, j = 1 ∨ j = 2 ∨ j = 3 ∨ j = 5 → (sN S i v).1 j = S.1 j := fun j hj => if_neg (by omega)
  unfold okS
  rw [e 1 (by omega), e 2 (by omega), e 3 (by omega), e 5 (by omega)]
  exact h
theorem okT {T : Nat → Nat} (h : okS S) : okS (sT S T) := h
theorem okR {i : Nat} {f : Nat → Int32} (h : okS S) : okS (sR S i f) := h
theorem okRf {i : Nat} (h : okS S) : okS (rfS S i) := h
theorem ok_feed (v1 v2 v3 v4 v5 : Int32) (h : okS S) : okS (sp_feed S v1 v2 v3 v4 v5).2.2 := by
  unfold sp_feed
  split
  · exact okT (okN (Or.inl rfl) h)
  · exact h
/-- a siege's beginning -/
theorem bg_bd {T R3 : Nat → Int32} (hw : w ≤ 6) (hT : bdA T) {R4 : Nat → Int32} (h3 : bdS w R3 R4) : bdF w R3 (bgA w T R3) := by
  obtain ⟨-, ⟨a1, h1, e1⟩, ⟨a2, h2, e2⟩, ⟨a4, h4, e4⟩, ⟨a5, h5, e5⟩, ⟨a7, h7, e7⟩, ⟨a9, h9, e9⟩, -⟩ := hT
  refine ⟨⟨a1, a4, a7, e1, e4, e7, by omega⟩, ⟨a2, a5, e2, e5, by omega⟩, ⟨a9, h9, e9⟩, fun k hk => ?_⟩
  obtain ⟨⟨s, s1, s2, s3⟩, -⟩ := h3 k hk
  refine ⟨s, s, s1, Nat.le_refl s, s2, ?_, s3⟩
  unfold bgA
  rw [if_neg (by omega), if_neg (by omega), if_neg (by omega), if_neg (by omega), if_neg (by omega), if_neg (by omega), if_neg (by omega), if_pos (by omega), show 12 + k - 12 = k by omega]
  exact s3
theorem fdW_le {T : Nat → Nat} {n : Nat} : ∀ (f b w k : Nat), w ≤ 6 → fdW (txP T n wl6 bd6 fl6 f b w k).2 w ≤ 6 := by
  intro f
  induction f with
  | zero => intro b w k h; exact h
  | succ f ih =>
    intro b w k h
    rcases Nat.lt_or_ge (rn isBl T n k) n with hl | hl
    · rcases hp : ptS T n wl6 bd6 (fl6 b w) (rn isBl T n k) with ⟨x, p, y⟩
      cases x with
      | some c => rw [tx_f (c := c) hl (by rw [hp])]; exact h
      | none =>
        cases y with
        | none => rw [txP, if_neg (by omega), hp]; exact h
        | some z =>
          obtain ⟨q, vs⟩ := z
          rw [tx_o (q := q) (vs := vs) hl (by rw [hp]) (by rw [hp])]
          obtain ⟨p9, -, h2, -⟩ := pt_q (show (ptS T n wl6 bd6 (fl6 b w) (rn isBl T n k)).2.2 = some (q, vs) by rw [hp])
          exact ih _ _ _ (fl6_w h2 h)
    · rw [tx_e hl]; exact h
theorem wl6_8 : wl6.length = 8 := by decide
theorem wl5_7 : wl5.length = 7 := by decide
theorem tx_v6 {T : Nat → Nat} {n : Nat} (f b w k : Nat) : ∀ a ∈ (txP T n wl6 bd6 fl6 f b w k).2, a.1 < 8 ∧ vbL (bd6 a.1) a.2 := fun a ha => by
  have := tx_v f b w k a ha
  rw [wl6_8] at this
  exact this
theorem tx_v5 {T : Nat → Nat} {n v : Nat} (f b w k : Nat) : ∀ a ∈ (txP T n wl5 (bd5 v) (fun b _ => fl5 b) f b w k).2, a.1 < 7 ∧ vbL (bd5 v a.1) a.2 := fun a ha => by
  have := tx_v f b w k a ha
  rw [wl5_7] at this
  exact this
theorem ok_sgN {T : Nat → Nat} {n : Nat} : okS (sgN9 S (txP T n wl6 bd6 fl6 61 0 0 0).2) := by
  have hv := tx_v6 (T := T) (n := n) 61 0 0 0
  have hw := fdW_le (T := T) (n := n) 61 0 0 0 (by decide)
  generalize (txP T n wl6 bd6 fl6 61 0 0 0).2 = L at hv hw
  have hT := bdI_A (bdI_F L 0 tnA hv bdI_0)
  have hS := bdS_F L 0 (fun _ => 0) (fun _ => 0) hv (fun k hk => absurd hk (Nat.not_lt_zero k))
  refine ⟨⟨hw, by show 0 ≤ 6; decide, by show 0 ≤ 120; decide, hT.1, fun k hk => (hS k hk).2, bg_bd hw hT hS, Or.inl ⟨rfl, rfl⟩, fun c hc => absurd hc (Nat.not_lt_zero c), fun t ht => absurd ht (Nat.not_lt_zero t)⟩, fun j hj => absurd hj (Nat.not_lt_zero j)⟩
theorem ok_siege (x : Int32) (h : okS S) : okS (sp_siege S x).2.2 := by
  unfold sp_siege
  split
  · exact h
  · unfold sgS
    split
    · exact okR (okN (Or.inl rfl) h)
    · exact ok_sgN
/-- a contract told -/
def rlI (C : Nat → Int32) : Prop := (∃ a, a ≤ 999 ∧ C 0 = nI a) ∧ (C 1 = -1 ∨ ∃ a, a ≤ 999 ∧ C 1 = nI a) ∧ (∃ a, a ≤ 9 ∧ C 2 = nI a) ∧ (∃ a, a ≤ 99 ∧ C 3 = nI a) ∧ (∃ a, a ≤ 99 ∧ C 4 = nI a) ∧ ∃ a, 1 ≤ a ∧ a ≤ 36 ∧ C 5 = nI a
theorem rlI_D {v q : Nat} {vs : List Nat} {C : Nat → Int32} (hq : q < 7) (hv : vbL (bd5 v q) vs) (h : rlI C) : rlI (rlD q vs C) := by
  obtain ⟨h0, h1, h2, h3, h4, h5⟩ := h
  have hb := hv.2
  unfold rlD
  rcases (show q = 0 ∨ q = 1 ∨ q = 2 ∨ q = 3 ∨ q = 4 ∨ q = 5 ∨ q = 6 by omega) with rfl | rfl | rfl | rfl | rfl | rfl | rfl
  · have k : 0 ≤ vs.getD 0 0 ∧ vs.getD 0 0 < 1000 := hb 0 Nat.zero_lt_one
    rw [if_neg (by decide)]
    exact ⟨⟨_, by omega, upd_s⟩, by rw [upd_n (by decide)]; exact h1, by rw [upd_n (by decide)]; exact h2, by rw [upd_n (by decide)]; exact h3, by rw [upd_n (by decide)]; exact h4, by rw [upd_n (by decide)]; exact h5⟩
  · have k : 0 ≤ vs.getD 0 0 ∧ vs.getD 0 0 < 1000 := hb 0 Nat.zero_lt_one
    rw [if_neg (by decide)]
    exact ⟨by rw [upd_n (by decide)]; exact h0, Or.inr ⟨_, by omega, upd_s⟩, by rw [upd_n (by decide)]; exact h2, by rw [upd_n (by decide)]; exact h3, by rw [upd_n (by decide)]; exact h4, by rw [upd_n (by decide)]; exact h5⟩
  · have k : 0 ≤ vs.getD 0 0 ∧ vs.getD 0 0 < 10 := hb 0 Nat.zero_lt_one
    rw [if_neg (by decide)]
    exact ⟨by rw [upd_n (by decide)]; exact h0, by rw [upd_n (by decide)]; exact h1, ⟨_, by omega, upd_s⟩, by rw [upd_n (by decide)]; exact h3, by rw [upd_n (by decide)]; exact h4, by rw [upd_n (by decide)]; exact h5⟩
  · have k : 0 ≤ vs.getD 0 0 ∧ vs.getD 0 0 < 100 := hb 0 Nat.zero_lt_one
    rw [if_neg (by decide)]
    exact ⟨by rw [upd_n (by decide)]; exact h0, by rw [upd_n (by decide)]; exact h1, by rw [upd_n (by decide)]; exact h2, ⟨_, by omega, upd_s⟩, by rw [upd_n (by decide)]; exact h4, by rw [upd_n (by decide)]; exact h5⟩
  · have k : 0 ≤ vs.getD 0 0 ∧ vs.getD 0 0 < 100 := hb 0 Nat.zero_lt_one
    rw [if_neg (by decide)]
    exact ⟨by rw [upd_n (by decide)]; exact h0, by rw [upd_n (by decide)]; exact h1, by rw [upd_n (by decide)]; exact h2, by rw [upd_n (by decide)]; exact h3, ⟨_, by omega, upd_s⟩, by rw [upd_n (by decide)]; exact h5⟩
  · have k : 1 ≤ vs.getD 0 0 ∧ vs.getD 0 0 < 37 := hb 0 Nat.zero_lt_one
    rw [if_neg (by decide)]
    exact ⟨by rw [upd_n (by decide)]; exact h0, by rw [upd_n (by decide)]; exact h1, by rw [upd_n (by decide)]; exact h2, by rw [upd_n (by decide)]; exact h3, by rw [upd_n (by decide)]; exact h4, ⟨_, k.1, by omega, upd_s⟩⟩
  · rw [if_pos rfl]
    exact ⟨h0, h1, h2, h3, h4, h5⟩
theorem rlI_F {v : Nat} : ∀ (L : List (Nat × List Nat)) (C : Nat → Int32), (∀ a ∈ L, a.1 < 7 ∧ vbL (bd5 v a.1) a.2) → rlI C → rlI (fdRl L C)
  | [], _, _, h => h
  | a :: L, C, hL, h => rlI_F L _ (fun b hb => hL b (List.mem_cons_of_mem _ hb)) (rlI_D (hL a List.mem_cons_self).1 (hL a List.mem_cons_self).2 h)
def brI (v : Nat) (B : Nat → Int32) : Prop := ∀ m, m < 36 → B m = -1 ∨ ∃ k, k < v ∧ B m = nI k
theorem brI_F {v : Nat} : ∀ (L : List (Nat × List Nat)) (B : Nat → Int32), (∀ a ∈ L, a.1 < 7 ∧ vbL (bd5 v a.1) a.2) → brI v B → brI v (fdB L B)
  | [], _, _, h => h
  | a :: L, B, hL, h => brI_F L _ (fun b hb => hL b (List.mem_cons_of_mem _ hb)) (fun m hm => by
    unfold rlB
    split
    · rename_i e
      have hv := (hL a List.mem_cons_self).2.2
      rw [e] at hv
      have k : 0 ≤ a.2.getD 0 0 ∧ a.2.getD 0 0 < v := hv 0 (by show 0 < 2; decide)
      by_cases c : m = a.2.getD 1 0
      · rw [c, upd_s]; exact Or.inr ⟨_, k.2, rfl⟩
      · rw [upd_n c]; exact h m hm
    · exact h m hm)
theorem ct_con {L : List (Nat × List Nat)} {v : Nat} (hL : ∀ a ∈ L, a.1 < 7 ∧ vbL (bd5 v a.1) a.2) : conG v (ctC L) (ctB L) := by
  obtain ⟨⟨a0, h0, e0⟩, h1, h2, h3, ⟨a4, h4, e4⟩, h5⟩ := rlI_F L (flF iniF (fun _ => 0) 7) hL ⟨⟨0, by decide, rfl⟩, Or.inl rfl, ⟨9, by decide, rfl⟩, ⟨0, by decide, rfl⟩, ⟨0, by decide, rfl⟩, ⟨36, by decide, by decide, rfl⟩⟩
  refine ⟨h2, h3, h5, ⟨⟨a0, h0, e0⟩, ?_, ⟨a4, h4, e4⟩⟩, brI_F L _ hL (fun m hm => Or.inl (by unfold flF; rw [if_pos hm]))⟩
  show ∃ a, a ≤ 999 ∧ (if fdRl L (flF iniF (fun _ => 0) 7) 1 = -1 then fdRl L (flF iniF (fun _ => 0) 7) 0 else fdRl L (flF iniF (fun _ => 0) 7) 1) = nI a
  by_cases c : fdRl L (flF iniF (fun _ => 0) 7) 1 = -1
  · rw [if_pos c]; exact ⟨a0, h0, e0⟩
  · rw [if_neg c]; exact h1.resolve_left c
theorem ct_n {L : List (Nat × List Nat)} {i : Nat} (h1 : i ≠ 10 + nt) (h2 : i ≠ 20 + nt) : ctR9 nt L R i = R i := by unfold ctR9; rw [if_neg h1, if_neg h2]
theorem ok_ctN {L : List (Nat × List Nat)} (h : okS S) (hn : S.1 2 < 6) (hL : ∀ a ∈ L, a.1 < 7 ∧ vbL (bd5 (S.1 1) a.1) a.2) : okS (ctN9 S L) := by
  obtain ⟨⟨a1, a2, a3, a4, a5, a6, a7, a8, a9⟩, b⟩ := h
  have he : ∀ c, c < S.1 2 → ctR9 (S.1 2) L S.2.2.2.2 (10 + c) = S.2.2.2.2 (10 + c) := fun c hc => ct_n (by omega) (by omega)
  have k3 : ctR9 (S.1 2) L S.2.2.2.2 3 = S.2.2.2.2 3 := ct_n (by omega) (by omega)
  have k4 : ctR9 (S.1 2) L S.2.2.2.2 4 = S.2.2.2.2 4 := ct_n (by omega) (by omega)
  have k5 : ctR9 (S.1 2) L S.2.2.2.2 5 = S.2.2.2.2 5 := ct_n (by omega) (by omega)
  have k2 : ctR9 (S.1 2) L S.2.2.2.2 2 = S.2.2.2.2 2 := ct_n (by omega) (by omega)
  show okA (S.1 1) (S.1 2 + 1) (S.1 5) (ctR9 (S.1 2) L S.2.2.2.2) ∧ ∀ j, j < S.1 3 → okJ (S.1 1) (S.1 2 + 1) (ctR9 (S.1 2) L S.2.2.2.2) (S.2.2.2.1 j)
  refine ⟨?_, fun j hj => okJ_n (b j hj) he k3 (Nat.le_succ _)⟩
  unfold okA
  rw [k2, k3, k4, k5]
  refine ⟨a1, by omega, a3, a4, a5, a6, nowG_n a7 he (Nat.le_succ _), fun c hc => ?_, fun t ht => ?_⟩
  · by_cases e : c = S.1 2
    · have e1 : ctR9 (S.1 2) L S.2.2.2.2 (10 + c) = ctC L := by unfold ctR9; rw [if_pos (by omega)]
      have e2 : ctR9 (S.1 2) L S.2.2.2.2 (20 + c) = ctB L := by unfold ctR9; rw [if_neg (by omega), if_pos (by omega)]
      rw [e1, e2]
      exact ct_con hL
    · rw [he c (by omega), ct_n (i := 20 + c) (by omega) (by omega)]
      exact a8 c (by omega)
  · rw [ct_n (i := 40 + t) (by omega) (by omega)]
    exact ⟨(a9 t ht).1, nowG_n (a9 t ht).2 he (Nat.le_succ _)⟩
theorem ok_contract (x : Int32) (h : okS S) : okS (sp_contract S x).2.2 := by
  unfold sp_contract
  split
  · exact h
  · split
    · exact okR (okN (Or.inl rfl) h)
    · rename_i hn
      unfold ctS
      split
      · exact okR (okN (Or.inl rfl) h)
      · exact ok_ctN h (by have := h.1.2.1; omega) (tx_v5 _ _ _ _)
theorem ok_told (x : Int32) (h : okS S) : okS (sp_told S x).2.2 := by unfold sp_told; split <;> exact h
theorem ok_wall (x y : Int32) (h : okS S) : okS (sp_wall S x y).2.2 := by
  unfold sp_wall
  split
  · exact h
  · split <;> exact h
theorem ok_rule (x y : Int32) (h : okS S) : okS (sp_rule S x y).2.2 := by
  unfold sp_rule
  split
  · exact h
  · split <;> exact h
theorem ok_wants (x y : Int32) (h : okS S) : okS (sp_wants S x y).2.2 := by unfold sp_wants; split <;> exact h
theorem ok_sums (x : Int32) (h : okS S) : okS (sp_sums S x).2.2 := by unfold sp_sums; split <;> exact h
theorem ok_corks (x y : Int32) (h : okS S) : okS (sp_corks S x y).2.2 := by
  unfold sp_corks
  split
  · exact h
  · split <;> exact h
theorem ok_would (x y z : Int32) (h : okS S) : okS (sp_would S x y z).2.2 := by
  unfold sp_would
  split
  · exact h
  · split <;> exact h
theorem ok_best (x y : Int32) (h : okS S) : okS (sp_best S x y).2.2 := by unfold sp_best; split <;> exact h
theorem ok_offer (x y : Int32) (h : okS S) : okS (sp_offer S x y).2.2 := by unfold sp_offer; split <;> exact h
theorem ok_nearest (x y : Int32) (h : okS S) : okS (sp_nearest S x y).2.2 := by unfold sp_nearest; split <;> exact h
theorem ok_stop (x y : Int32) (h : okS S) : okS (sp_stop S x y).2.2 := by unfold sp_stop; split <;> exact h
theorem ok_odds (x y : Int32) (h : okS S) : okS (sp_odds S x y).2.2 := by
  unfold sp_odds
  split
  · exact h
  · exact okN (Or.inr rfl) h
theorem ok_kind (x y z : Int32) (h : okS S) : okS (sp_kind S x y z).2.2 := by unfold sp_kind; split <;> exact h
theorem ok_th (h : okS S) : okS (thS S).2.2 := by
  unfold thS
  split
  · exact okN (Or.inr rfl) h
  · exact h
theorem ok_seen (x : Int32) (h : okS S) : okS (sp_seen S x).2.2 := by
  unfold sp_seen
  split
  · exact h
  · exact ok_th h
theorem ok_spy (b x : Int32) (h : okS S) : okS (sp_spy S b x).2.2 := by
  unfold sp_spy
  split
  · exact h
  · exact ok_th h
theorem ok_believed (x : Int32) (h : okS S) : okS (sp_believed S x).2.2 := by unfold sp_believed; split <;> exact h
theorem ok_earnest (x y z : Int32) (h : okS S) : okS (sp_earnest S x y z).2.2 := by unfold sp_earnest; split <;> exact h
theorem ok_stands (x y : Int32) (h : okS S) : okS (sp_stands S x y).2.2 := by unfold sp_stands; split <;> exact h
theorem ok_show (x y : Int32) (h : okS S) : okS (sp_show S x y).2.2 := by unfold sp_show; split <;> exact h
theorem ok_serves (x : Int32) (h : okS S) : okS (sp_serves S x).2.2 := by unfold sp_serves; split <;> exact h
theorem ok_most (h : okS S) : okS (sp_most S).2.2 := h
theorem ok_fault (h : okS S) : okS (sp_fault S).2.2 := h
theorem ok_status (x : Int32) (h : okS S) : okS (sp_status S x).2.2 := by unfold sp_status; split <;> exact h
theorem ok_count (x : Int32) (h : okS S) : okS (sp_count S x).2.2 := by
  unfold sp_count
  (repeat' split) <;> exact h
/-- signed: none, or a contract that is told -/
theorem ok_u5 (h : okS S) {F : Nat → Int32} (hb : bdF (S.1 1) (S.2.2.2.2 3) F) (hg : nowG S.2.2.2.2 (S.1 2) (S.1 5) F) : okS (sW S (rwU S.2.2.2.2 5 F)) := by
  obtain ⟨⟨a1, a2, a3, a4, a5, a6, a7, a8, a9⟩, b⟩ := h
  have he : ∀ c, c < S.1 2 → rwU S.2.2.2.2 5 F (10 + c) = S.2.2.2.2 (10 + c) := fun c hc => rwU_n (by omega)
  show okA (S.1 1) (S.1 2) (S.1 5) (rwU S.2.2.2.2 5 F) ∧ ∀ j, j < S.1 3 → okJ (S.1 1) (S.1 2) (rwU S.2.2.2.2 5 F) (S.2.2.2.1 j)
  refine ⟨?_, fun j hj => okJ_n (b j hj) he (rwU_n (by decide)) (Nat.le_refl _)⟩
  unfold okA
  rw [rwU_n (i := 5) (j := 2) (by decide), rwU_n (i := 5) (j := 3) (by decide), rwU_n (i := 5) (j := 4) (by decide), rwU_s]
  exact ⟨a1, a2, a3, a4, a5, hb, nowG_n hg he (Nat.le_refl _), fun c hc => by rw [he c hc, rwU_n (j := 20 + c) (by omega)]; exact a8 c hc, fun t ht => by rw [rwU_n (j := 40 + t) (by omega)]; exact ⟨(a9 t ht).1, nowG_n (a9 t ht).2 he (Nat.le_refl _)⟩⟩
theorem ok_sign (x : Int32) (h : okS S) : okS (sp_sign S x).2.2 := by
  unfold sp_sign
  split
  · exact h
  · rename_i hc
    refine ok_u5 h (bd_sg h.1.2.2.2.2.2.1 x) ?_
    by_cases e : x = -1
    · subst e
      exact Or.inl ⟨sgF_10 _ _, by unfold sgF; rw [upd_s, if_pos rfl]⟩
    · have hx : ¬ he_within x 0 (nI (S.1 2) - 1) = 0 := fun h9 => hc ⟨e, h9⟩
      obtain ⟨c, hlt, rfl⟩ := in_lt (by have := h.1.2.1; omega) hx
      obtain ⟨-, -, ⟨q5, q1, q2, q3⟩, -⟩ := h.1.2.2.2.2.2.2.2.1 c hlt
      refine Or.inr ⟨c, 0, hlt, sgF_10 _ _, ?_, Nat.zero_le _, ?_⟩
      · unfold sgF; rw [upd_s, if_neg e]; rfl
      · rw [q3, toN_I (by omega)]; omega
theorem ok_months (x : Int32) (h : okS S) : okS (sp_months S x).2.2 := by
  unfold sp_months
  split
  · exact h
  · obtain ⟨a, b⟩ := h
    have hm := a.2.2.1
    refine ⟨ok_ms a _ (by omega), fun j hj => okJ_n (b j hj) (fun c hc => aMs_n (by omega) (by have := a.2.1; omega) _) (aMs_n (by decide) (by decide) _) (Nat.le_refl _)⟩
theorem ok_un {n : Nat} (h : okA w nt mm R) : okA w nt (mm - min n mm) (unA R mm n) := by
  obtain ⟨a1, a2, a3, a4, a5, a6, a7, a8, a9⟩ := h
  have he : ∀ c, c < nt → unA R mm n (10 + c) = R (10 + c) := fun c hc => un_n (by omega)
  have main : bdF w (R 3) (unA R mm n 5) ∧ nowG (unA R mm n) nt (mm - min n mm) (unA R mm n 5) := by
    show bdF w (R 3) (if 5 = 5 ∧ 0 < min n mm then R (40 + (mm - min n mm)) else R 5) ∧ nowG (unA R mm n) nt (mm - min n mm) (if 5 = 5 ∧ 0 < min n mm then R (40 + (mm - min n mm)) else R 5)
    by_cases c : 0 < min n mm
    · rw [if_pos ⟨rfl, c⟩]
      have := a9 (mm - min n mm) (by omega)
      exact ⟨this.1, nowG_n this.2 he (Nat.le_refl _)⟩
    · rw [if_neg (fun h9 => c h9.2), show mm - min n mm = mm by omega]
      exact ⟨a6, nowG_n a7 he (Nat.le_refl _)⟩
  unfold okA
  rw [un_n (i := 2) (by decide), un_n (i := 3) (by decide), un_n (i := 4) (by decide)]
  exact ⟨a1, a2, by omega, a4, a5, main.1, main.2, fun c hc => by rw [he c hc, un_n (i := 20 + c) (by omega)]; exact a8 c hc, fun t ht => by rw [un_n (i := 40 + t) (by omega)]; exact ⟨(a9 t (by omega)).1, nowG_n (a9 t (by omega)).2 he (Nat.le_refl _)⟩⟩
theorem ok_undo (x : Int32) (h : okS S) : okS (sp_undo S x).2.2 := by
  unfold sp_undo
  split
  · exact h
  · show okA (S.1 1) (S.1 2) (S.1 5 - min x.toNatClampNeg (S.1 5)) (unA S.2.2.2.2 (S.1 5) x.toNatClampNeg) ∧ ∀ j, j < S.1 3 → okJ (S.1 1) (S.1 2) (unA S.2.2.2.2 (S.1 5) x.toNatClampNeg) (S.2.2.2.1 j)
    exact ⟨ok_un h.1, fun j hj => okJ_n (h.2 j hj) (fun c hc => un_n (by omega)) (un_n (by decide)) (Nat.le_refl _)⟩
theorem ok_offers (x y z : Int32) (h : okS S) : okS (sp_offers S x y z).2.2 := by
  unfold sp_offers
  split
  · exact h
  · rename_i hc
    have hx : ¬ he_within x 1 2 = 0 := fun h9 => hc (Or.inl h9)
    obtain ⟨i, rfl, h1, h2⟩ := wi_nat (A := 1) (B := 2) rfl rfl (by decide) (by decide) hx
    rw [toN_I (by omega)]
    obtain ⟨⟨a1, a2, a3, a4, a5, a6, a7, a8, a9⟩, b⟩ := h
    generalize upd (S.2.2.2.2 (29 + i)) (toN y) z = F
    have hn : ∀ j, j ≠ 29 + i → rwU S.2.2.2.2 (29 + i) F j = S.2.2.2.2 j := fun j hj => rwU_n hj
    have he : ∀ c, c < S.1 2 → rwU S.2.2.2.2 (29 + i) F (10 + c) = S.2.2.2.2 (10 + c) := fun c hc => hn _ (by omega)
    show okA (S.1 1) (S.1 2) (S.1 5) (rwU S.2.2.2.2 (29 + i) F) ∧ ∀ j, j < S.1 3 → okJ (S.1 1) (S.1 2) (rwU S.2.2.2.2 (29 + i) F) (S.2.2.2.1 j)
    refine ⟨?_, fun j hj => okJ_n (b j hj) he (hn 3 (by omega)) (Nat.le_refl _)⟩
    unfold okA
    rw [hn 2 (by omega), hn 3 (by omega), hn 4 (by omega), hn 5 (by omega)]
    exact ⟨a1, a2, a3, a4, a5, a6, nowG_n a7 he (Nat.le_refl _), fun c hc => by rw [he c hc, hn (20 + c) (by omega)]; exact a8 c hc, fun t ht => by rw [hn (40 + t) (by omega)]; exact ⟨(a9 t ht).1, nowG_n (a9 t ht).2 he (Nat.le_refl _)⟩⟩
theorem ok_image (h : okS S) : okS (sp_image S).2.2 := by
  unfold sp_image
  split
  · exact h
  · refine ⟨h.1, fun j hj => ?_⟩
    by_cases e : j = S.1 3
    · rw [e, imS_at rfl]
      obtain ⟨a1, a2, a3, a4, a5, a6, a7, a8, a9⟩ := h.1
      exact ⟨a3, a6, a7, a9⟩
    · rw [imS_ne rfl e]
      exact h.2 j (by have hj : j < S.1 3 + 1 := hj; omega)
theorem ok_restore (h : okS S) : okS (sp_restore S).2.2 := by
  unfold sp_restore
  split
  · exact h
  · rename_i hz
    obtain ⟨⟨a1, a2, a3, a4, a5, a6, a7, a8, a9⟩, b⟩ := h
    obtain ⟨c1, c2, c3, c4⟩ := b (S.1 3 - 1) (by omega)
    generalize hJ : S.2.2.2.1 (S.1 3 - 1) = J at c1 c2 c3 c4
    have he : ∀ c, c < S.1 2 → rsR J.2 S.2.2.2.2 (10 + c) = S.2.2.2.2 (10 + c) := fun c hc => rs_n (by omega) (by omega)
    show okA (S.1 1) (S.1 2) ((S.2.2.2.1 (S.1 3 - 1)).1 5) (rsR (S.2.2.2.1 (S.1 3 - 1)).2 S.2.2.2.2) ∧ ∀ j, j < S.1 3 - 1 → okJ (S.1 1) (S.1 2) (rsR (S.2.2.2.1 (S.1 3 - 1)).2 S.2.2.2.2) (S.2.2.2.1 j)
    rw [hJ]
    refine ⟨?_, fun j hj => okJ_n (b j (by omega)) he (rs_n (by decide) (by decide)) (Nat.le_refl _)⟩
    unfold okA
    rw [rs_n (i := 2) (by decide) (by decide), rs_n (i := 3) (by decide) (by decide), rs_n (i := 4) (by decide) (by decide), rs_y (i := 5) (Or.inl rfl)]
    exact ⟨a1, a2, c1, a4, a5, c2, nowG_n c3 he (Nat.le_refl _), fun c hc => by rw [he c hc, rs_n (i := 20 + c) (by omega) (by omega)]; exact a8 c hc, fun t ht => by rw [rs_y (i := 40 + t) (Or.inr (Or.inr (Or.inr (by omega))))]; exact ⟨(c4 t ht).1, nowG_n (c4 t ht).2 he (Nat.le_refl _)⟩⟩
end OK
theorem stS_e {S : AbS} (h : ∀ k, k < S.1 1 → ∃ s, s ≤ 99 ∧ S.2.2.2.2 3 k = nI s) : (∀ k, k < S.1 1 → S.2.2.2.2 3 k = nI (stS S k)) ∧ ∀ k, stS S k ≤ 99 := by
  refine ⟨fun k hk => ?_, fun k => ?_⟩
  · obtain ⟨s, h1, h2⟩ := h k hk
    unfold stS
    rw [if_pos hk, h2, toN_I (by omega)]
  · unfold stS
    by_cases c : k < S.1 1
    · obtain ⟨s, h1, h2⟩ := h k c
      rw [if_pos c, h2, toN_I (by omega)]
      exact h1
    · rw [if_neg c]; exact Nat.zero_le _
theorem ok_3 {S : AbS} (h : okS S) : ∀ k, k < S.1 1 → ∃ s, s ≤ 99 ∧ S.2.2.2.2 3 k = nI s := by
  intro k hk
  obtain ⟨v, s, -, -, h3, -, h4⟩ := h.1.2.2.2.2.2.1.2.2.2 k hk
  exact ⟨s, h3, h4⟩
