/-! what a text tells lies within its bounds -/
def vbL (L : List (Nat × Nat)) (vs : List Nat) : Prop := vs.length = L.length ∧ ∀ i, i < L.length → (L.getD i (0, 0)).1 ≤ vs.getD i 0 ∧ vs.getD i 0 < (L.getD i (0, 0)).2
theorem nm_v {T : Nat → Nat} {n : Nat} : ∀ (L : List (Nat × Nat)) (p e : Nat) (vs : List Nat), nmS T n L p = (none, e, vs) → vbL L vs := by
  intro L
  induction L with
  | nil =>
    intro p e vs h
    rw [nmS] at h
    cases h
    exact ⟨rfl, fun i hi => absurd hi (Nat.not_lt_zero i)⟩
  | cons q L ih =>
    intro p e vs h
    rw [nmS] at h
    split at h
    · cases h
    · split at h
      · rename_i hb
        rcases hn : nmS T n L (rn isDg T n (rn isBl T n p)) with ⟨f, e2, vs2⟩
        rw [hn] at h
        dsimp only at h
        cases h
        obtain ⟨h1, h2⟩ := ih _ _ _ hn
        refine ⟨by rw [List.length_cons, List.length_cons, h1], fun i hi => ?_⟩
        cases i with
        | zero => exact hb
        | succ i => exact h2 i (by rw [List.length_cons] at hi; omega)
      · cases h
theorem wrd_lt {T : Nat → Nat} {b e q : Nat} {wl : List (List Nat)} (h : wrdF T b e wl = some q) : q < wl.length := by
  unfold wrdF at h
  rw [List.findIdx?_eq_some_iff_getElem] at h
  obtain ⟨h1, -⟩ := h
  exact h1
theorem tx_v {T : Nat → Nat} {n : Nat} {wl : List (List Nat)} {bd : Nat → List (Nat × Nat)} {full : Nat → Nat → Nat → Bool} : ∀ (f b w k : Nat), ∀ a ∈ (txP T n wl bd full f b w k).2, a.1 < wl.length ∧ vbL (bd a.1) a.2 := by
  intro f
  induction f with
  | zero =>
    intro b w k a ha
    rw [txP] at ha
    exact absurd ha List.not_mem_nil
  | succ f ih =>
    intro b w k a ha
    rcases Nat.lt_or_ge (rn isBl T n k) n with h | h
    · rcases hp : ptS T n wl bd (full b w) (rn isBl T n k) with ⟨x, p, y⟩
      cases x with
      | some c =>
        rw [tx_f (c := c) h (by rw [hp])] at ha
        exact absurd ha List.not_mem_nil
      | none =>
        cases y with
        | none =>
          rw [txP, if_neg (by omega), hp] at ha
          exact absurd ha List.not_mem_nil
        | some z =>
          obtain ⟨q, vs⟩ := z
          rw [tx_o (q := q) (vs := vs) h (by rw [hp]) (by rw [hp])] at ha
          rcases List.mem_cons.mp ha with e | e
          · subst e
            obtain ⟨p9, h1, -, h3, -⟩ := pt_q (show (ptS T n wl bd (full b w) (rn isBl T n k)).2.2 = some (q, vs) by rw [hp])
            exact ⟨wrd_lt h1, nm_v _ _ _ _ h3⟩
          · exact ih _ _ _ a e
    · rw [tx_e h] at ha
      exact absurd ha List.not_mem_nil
/-- a contract's parts keep its numbers within their bounds -/
theorem rl_c {w q : Nat} {vs : List Nat} {pd : Nat → Int32} (hv : vbL (bd5 w q) vs) (h : cOk pd) : cOk (rlD q vs pd) := by
  unfold rlD
  split
  · exact h
  · refine cOk_upd h (fun e => ?_) (fun e => ?_) (fun e => ?_)
    · subst e
      have h9 : vs.getD 0 0 < 10 := (hv.2 0 (by show 0 < 1; omega)).2
      exact ⟨_, by omega, rfl⟩
    · subst e
      have h9 : vs.getD 0 0 < 100 := (hv.2 0 (by show 0 < 1; omega)).2
      exact ⟨_, by omega, rfl⟩
    · subst e
      have h8 : 1 ≤ vs.getD 0 0 := (hv.2 0 (by show 0 < 1; omega)).1
      have h9 : vs.getD 0 0 < 37 := (hv.2 0 (by show 0 < 1; omega)).2
      exact ⟨_, h8, by omega, rfl⟩
theorem rl_b {w q : Nat} {vs : List Nat} {wb : Nat → Int32} (hw : w ≤ 6) (hv : vbL (bd5 w q) vs) (h : bOk wb) : bOk (rlB q vs wb) := by
  unfold rlB
  split
  · rename_i e
    subst e
    have h9 : vs.getD 0 0 < w := (hv.2 0 (by show 0 < 2; omega)).2
    exact bOk_upd h (Or.inr ⟨_, by omega, rfl⟩)
  · exact h
theorem fd_c {w : Nat} : ∀ (L : List (Nat × List Nat)) (pd : Nat → Int32), (∀ a ∈ L, a.1 < 7 ∧ vbL (bd5 w a.1) a.2) → cOk pd → cOk (fdRl L pd)
  | [], _, _, h => h
  | a :: L, pd, hL, h => fd_c L _ (fun b hb => hL b (List.mem_cons_of_mem _ hb)) (rl_c (hL a List.mem_cons_self).2 h)
theorem fd_b {w : Nat} (hw : w ≤ 6) : ∀ (L : List (Nat × List Nat)) (wb : Nat → Int32), (∀ a ∈ L, a.1 < 7 ∧ vbL (bd5 w a.1) a.2) → bOk wb → bOk (fdB L wb)
  | [], _, _, h => h
  | a :: L, wb, hL, h => fd_b hw L _ (fun b hb => hL b (List.mem_cons_of_mem _ hb)) (rl_b hw (hL a List.mem_cons_self).2 h)
theorem clP_c (f : Nat → Int32) : cOk (clP f) := by
  refine ⟨⟨9, by decide, ?_⟩, ⟨0, by decide, ?_⟩, ⟨36, by decide, by decide, ?_⟩⟩ <;> (unfold clP upd; rfl)
theorem bOk_m1 {f : Nat → Int32} (h : bOk f) : ∀ k, k < 36 → -1 ≤ f k := by
  intro k hk
  rcases h k hk with e | ⟨j, hj, e⟩
  · rw [e]; decide
  · rw [e]
    exact (by decide : ∀ j : Nat, j < 6 → (-1 : Int32) ≤ nI j) j hj
