/-! what a siege's text tells: the class's numbers and the reference's -/
def mtF : List (Nat × List Nat) → Nat → (Nat → Int32) → (Nat → Int32)
  | [], _, T => T
  | a :: L, w, T => mtF L (stW a.1 w) (mtR a.1 a.2 w T)
def tnA (i : Nat) : Int32 := if 15 ≤ i then nrF (i - 15) else mdV i
theorem mtR_1 {q : Nat} {vs : List Nat} {w : Nat} {sd fn T : Nat → Int32} (hq : q < 8) (hv : vbL (bd6 q) vs) (h : ∀ i, 0 < i → i < 25 → tOf sd fn i = T i) : ∀ i, 0 < i → i < 25 → tOf (stD q vs sd) (stN q vs fn) i = mtR q vs w T i := by
  have hl := hv.1
  rcases (show q = 0 ∨ q = 1 ∨ q = 2 ∨ q = 3 ∨ q = 4 ∨ q = 5 ∨ q = 6 ∨ q = 7 by omega) with rfl | rfl | rfl | rfl | rfl | rfl | rfl | rfl
  · intro i h1 h2
    have e : stD 0 vs sd = sd := by funext j; unfold stD; rw [if_pos (Or.inl rfl)]
    have e2 : mtR 0 vs w T i = T i := by unfold mtR; rw [if_pos rfl, upd_n (by omega)]
    rw [e, e2]
    exact h i h1 h2
  · obtain ⟨a, b, c, rfl⟩ : ∃ a b c, vs = [a, b, c] := by
      match vs, hl with
      | [a, b, c], _ => exact ⟨a, b, c, rfl⟩
    intro i h1 h2
    rcases Nat.lt_or_ge i 15 with c1 | c1
    · rcases (show i = 1 ∨ i = 2 ∨ i = 3 ∨ i = 4 ∨ i = 5 ∨ i = 6 ∨ i = 7 ∨ i = 8 ∨ i = 9 ∨ i = 10 ∨ i = 11 ∨ i = 12 ∨ i = 13 ∨ i = 14 by omega) with rfl | rfl | rfl | rfl | rfl | rfl | rfl | rfl | rfl | rfl | rfl | rfl | rfl | rfl <;> first | rfl | exact h _ (by decide) (by decide)
    · obtain ⟨r, rfl⟩ : ∃ r, i = 15 + r := ⟨i - 15, by omega⟩
      have e2 : mtR 1 [a, b, c] w T (15 + r) = T (15 + r) := by show upd (upd (upd T 1 _) 2 _) 3 _ (15 + r) = _; rw [upd_n (by omega), upd_n (by omega), upd_n (by omega)]
      rw [e2, ← h (15 + r) (by omega) h2, tOf_15, tOf_15]; rfl
  · obtain ⟨a, b, c, rfl⟩ : ∃ a b c, vs = [a, b, c] := by
      match vs, hl with
      | [a, b, c], _ => exact ⟨a, b, c, rfl⟩
    intro i h1 h2
    rcases Nat.lt_or_ge i 15 with c1 | c1
    · rcases (show i = 1 ∨ i = 2 ∨ i = 3 ∨ i = 4 ∨ i = 5 ∨ i = 6 ∨ i = 7 ∨ i = 8 ∨ i = 9 ∨ i = 10 ∨ i = 11 ∨ i = 12 ∨ i = 13 ∨ i = 14 by omega) with rfl | rfl | rfl | rfl | rfl | rfl | rfl | rfl | rfl | rfl | rfl | rfl | rfl | rfl <;> first | rfl | exact h _ (by decide) (by decide)
    · obtain ⟨r, rfl⟩ : ∃ r, i = 15 + r := ⟨i - 15, by omega⟩
      have e2 : mtR 2 [a, b, c] w T (15 + r) = T (15 + r) := by show upd (upd (upd T 4 _) 5 _) 6 _ (15 + r) = _; rw [upd_n (by omega), upd_n (by omega), upd_n (by omega)]
      rw [e2, ← h (15 + r) (by omega) h2, tOf_15, tOf_15]; rfl
  · obtain ⟨a, b, rfl⟩ : ∃ a b, vs = [a, b] := by
      match vs, hl with
      | [a, b], _ => exact ⟨a, b, rfl⟩
    intro i h1 h2
    rcases Nat.lt_or_ge i 15 with c1 | c1
    · rcases (show i = 1 ∨ i = 2 ∨ i = 3 ∨ i = 4 ∨ i = 5 ∨ i = 6 ∨ i = 7 ∨ i = 8 ∨ i = 9 ∨ i = 10 ∨ i = 11 ∨ i = 12 ∨ i = 13 ∨ i = 14 by omega) with rfl | rfl | rfl | rfl | rfl | rfl | rfl | rfl | rfl | rfl | rfl | rfl | rfl | rfl <;> first | rfl | exact h _ (by decide) (by decide)
    · obtain ⟨r, rfl⟩ : ∃ r, i = 15 + r := ⟨i - 15, by omega⟩
      have e2 : mtR 3 [a, b] w T (15 + r) = T (15 + r) := by show upd (upd T 7 _) 8 _ (15 + r) = _; rw [upd_n (by omega), upd_n (by omega)]
      rw [e2, ← h (15 + r) (by omega) h2, tOf_15, tOf_15]; rfl
  · obtain ⟨a, b, c, rfl⟩ : ∃ a b c, vs = [a, b, c] := by
      match vs, hl with
      | [a, b, c], _ => exact ⟨a, b, c, rfl⟩
    intro i h1 h2
    rcases Nat.lt_or_ge i 15 with c1 | c1
    · rcases (show i = 1 ∨ i = 2 ∨ i = 3 ∨ i = 4 ∨ i = 5 ∨ i = 6 ∨ i = 7 ∨ i = 8 ∨ i = 9 ∨ i = 10 ∨ i = 11 ∨ i = 12 ∨ i = 13 ∨ i = 14 by omega) with rfl | rfl | rfl | rfl | rfl | rfl | rfl | rfl | rfl | rfl | rfl | rfl | rfl | rfl <;> first | rfl | exact h _ (by decide) (by decide)
    · obtain ⟨r, rfl⟩ : ∃ r, i = 15 + r := ⟨i - 15, by omega⟩
      have e2 : mtR 4 [a, b, c] w T (15 + r) = T (15 + r) := by show upd (upd (upd T 9 _) 10 _) 11 _ (15 + r) = _; rw [upd_n (by omega), upd_n (by omega), upd_n (by omega)]
      rw [e2, ← h (15 + r) (by omega) h2, tOf_15, tOf_15]; rfl
  · obtain ⟨a, b, rfl⟩ : ∃ a b, vs = [a, b] := by
      match vs, hl with
      | [a, b], _ => exact ⟨a, b, rfl⟩
    intro i h1 h2
    have e : stD 5 [a, b] sd = sd := by funext j; unfold stD; rw [if_pos (Or.inr rfl)]
    have e3 : stN 5 [a, b] fn = upd fn a (nI b) := rfl
    have e4 : mtR 5 [a, b] w T = upd T (15 + a) (nI b) := rfl
    rw [e, e3, e4]
    rcases Nat.lt_or_ge i 15 with c1 | c1
    · rw [upd_n (by omega), ← h i h1 h2]
      unfold tOf
      rw [if_neg (by omega), if_neg (by omega)]
    · obtain ⟨r, rfl⟩ : ∃ r, i = 15 + r := ⟨i - 15, by omega⟩
      rw [tOf_15]
      by_cases c : r = a
      · rw [c, upd_s, upd_s]
      · rw [upd_n c, upd_n (by omega), ← h (15 + r) (by omega) h2, tOf_15]
  · obtain ⟨a, rfl⟩ : ∃ a, vs = [a] := by
      match vs, hl with
      | [a], _ => exact ⟨a, rfl⟩
    intro i h1 h2
    rcases Nat.lt_or_ge i 15 with c1 | c1
    · rcases (show i = 1 ∨ i = 2 ∨ i = 3 ∨ i = 4 ∨ i = 5 ∨ i = 6 ∨ i = 7 ∨ i = 8 ∨ i = 9 ∨ i = 10 ∨ i = 11 ∨ i = 12 ∨ i = 13 ∨ i = 14 by omega) with rfl | rfl | rfl | rfl | rfl | rfl | rfl | rfl | rfl | rfl | rfl | rfl | rfl | rfl <;> first | rfl | exact h _ (by decide) (by decide)
    · obtain ⟨r, rfl⟩ : ∃ r, i = 15 + r := ⟨i - 15, by omega⟩
      have e2 : mtR 6 [a] w T (15 + r) = T (15 + r) := by show upd T 12 _ (15 + r) = _; rw [upd_n (by omega)]
      rw [e2, ← h (15 + r) (by omega) h2, tOf_15, tOf_15]; rfl
  · obtain ⟨a, b, rfl⟩ : ∃ a b, vs = [a, b] := by
      match vs, hl with
      | [a, b], _ => exact ⟨a, b, rfl⟩
    intro i h1 h2
    rcases Nat.lt_or_ge i 15 with c1 | c1
    · rcases (show i = 1 ∨ i = 2 ∨ i = 3 ∨ i = 4 ∨ i = 5 ∨ i = 6 ∨ i = 7 ∨ i = 8 ∨ i = 9 ∨ i = 10 ∨ i = 11 ∨ i = 12 ∨ i = 13 ∨ i = 14 by omega) with rfl | rfl | rfl | rfl | rfl | rfl | rfl | rfl | rfl | rfl | rfl | rfl | rfl | rfl <;> first | rfl | exact h _ (by decide) (by decide)
    · obtain ⟨r, rfl⟩ : ∃ r, i = 15 + r := ⟨i - 15, by omega⟩
      have e2 : mtR 7 [a, b] w T (15 + r) = T (15 + r) := by show upd (upd T 13 _) 14 _ (15 + r) = _; rw [upd_n (by omega), upd_n (by omega)]
      rw [e2, ← h (15 + r) (by omega) h2, tOf_15, tOf_15]; rfl
theorem mt_F : ∀ (L : List (Nat × List Nat)) (w : Nat) (sd fn T : Nat → Int32), (∀ a ∈ L, a.1 < 8 ∧ vbL (bd6 a.1) a.2) → (∀ i, 0 < i → i < 25 → tOf sd fn i = T i) → ∀ i, 0 < i → i < 25 → tOf (fdD L sd) (fdN L fn) i = mtF L w T i
  | [], _, _, _, _, _, h => h
  | a :: L, w, sd, fn, T, hL, h => mt_F L (stW a.1 w) _ _ _ (fun b hb => hL b (List.mem_cons_of_mem _ hb)) (mtR_1 (hL a List.mem_cons_self).1 (hL a List.mem_cons_self).2 h)
theorem mt_0 (sd fn : Nat → Int32) : ∀ i, 0 < i → i < 25 → tOf (flF unF sd 24) (flF nrF fn 10) i = tnA i := by
  intro i h1 h2
  rcases Nat.lt_or_ge i 15 with c1 | c1
  · rcases (show i = 1 ∨ i = 2 ∨ i = 3 ∨ i = 4 ∨ i = 5 ∨ i = 6 ∨ i = 7 ∨ i = 8 ∨ i = 9 ∨ i = 10 ∨ i = 11 ∨ i = 12 ∨ i = 13 ∨ i = 14 by omega) with rfl | rfl | rfl | rfl | rfl | rfl | rfl | rfl | rfl | rfl | rfl | rfl | rfl | rfl <;> rfl
  · obtain ⟨r, rfl⟩ : ∃ r, i = 15 + r := ⟨i - 15, by omega⟩
    rw [tOf_15]
    unfold flF tnA
    rw [if_pos (by omega), if_pos (by omega), show 15 + r - 15 = r by omega]
/-- the bounds of what is told -/
def bdA (T : Nat → Int32) : Prop := bdT T ∧ (∃ a, a ≤ 9999 ∧ T 1 = nI a) ∧ (∃ a, a ≤ 999 ∧ T 2 = nI a) ∧ (∃ a, a ≤ 9999 ∧ T 4 = nI a) ∧ (∃ a, a ≤ 999 ∧ T 5 = nI a) ∧ (∃ a, a ≤ 9999 ∧ T 7 = nI a) ∧ (∃ a, a ≤ 100 ∧ T 9 = nI a) ∧ (∃ a, a ≤ 99 ∧ T 13 = nI a) ∧ ∃ a, a ≤ 99 ∧ T 14 = nI a
/-- each place's bound -/
def mxA (i : Nat) : Nat := if 15 ≤ i then 20 else [0, 9999, 999, 9, 9999, 999, 9, 9999, 100, 100, 50, 50, 9, 99, 99].getD i 0
def bdI (T : Nat → Int32) : Prop := ∀ i, 0 < i → i < 25 → ∃ a, a ≤ mxA i ∧ T i = nI a
theorem bdI_A {T : Nat → Int32} (h : bdI T) : bdA T := ⟨⟨h 3 (by decide) (by decide), h 6 (by decide) (by decide), h 8 (by decide) (by decide), h 10 (by decide) (by decide), h 11 (by decide) (by decide), h 12 (by decide) (by decide), fun r hr => by
    obtain ⟨a, h1, h2⟩ := h (15 + r) (by omega) (by omega)
    unfold mxA at h1
    rw [if_pos (by omega)] at h1
    exact ⟨a, h1, h2⟩⟩, h 1 (by decide) (by decide), h 2 (by decide) (by decide), h 4 (by decide) (by decide), h 5 (by decide) (by decide), h 7 (by decide) (by decide), h 9 (by decide) (by decide), h 13 (by decide) (by decide), h 14 (by decide) (by decide)⟩
theorem bdI_u {T : Nat → Int32} (h : bdI T) {k v : Nat} (hv : v ≤ mxA k) : bdI (upd T k (nI v)) := by
  intro i h1 h2
  by_cases e : i = k
  · subst e; rw [upd_s]; exact ⟨v, hv, rfl⟩
  · rw [upd_n e]; exact h i h1 h2
theorem bdI_0 : bdI tnA := by
  intro i h1 h2
  rcases Nat.lt_or_ge i 15 with c1 | c1
  · rcases (show i = 1 ∨ i = 2 ∨ i = 3 ∨ i = 4 ∨ i = 5 ∨ i = 6 ∨ i = 7 ∨ i = 8 ∨ i = 9 ∨ i = 10 ∨ i = 11 ∨ i = 12 ∨ i = 13 ∨ i = 14 by omega) with rfl | rfl | rfl | rfl | rfl | rfl | rfl | rfl | rfl | rfl | rfl | rfl | rfl | rfl
    · exact ⟨1000, by decide, rfl⟩
    · exact ⟨100, by decide, rfl⟩
    · exact ⟨3, by decide, rfl⟩
    · exact ⟨0, by decide, rfl⟩
    · exact ⟨100, by decide, rfl⟩
    · exact ⟨5, by decide, rfl⟩
    · exact ⟨5000, by decide, rfl⟩
    · exact ⟨20, by decide, rfl⟩
    · exact ⟨20, by decide, rfl⟩
    · exact ⟨10, by decide, rfl⟩
    · exact ⟨5, by decide, rfl⟩
    · exact ⟨1, by decide, rfl⟩
    · exact ⟨5, by decide, rfl⟩
    · exact ⟨1, by decide, rfl⟩
  · obtain ⟨r, rfl⟩ : ∃ r, i = 15 + r := ⟨i - 15, by omega⟩
    refine ⟨9 - r, ?_, ?_⟩
    · unfold mxA; rw [if_pos (by omega)]; omega
    · unfold tnA nrF
      rw [if_pos (by omega), show 15 + r - 15 = r by omega]
      exact pk_sub (a := 9) (by omega)
theorem bdI_R {q : Nat} {vs : List Nat} {w : Nat} {T : Nat → Int32} (hq : q < 8) (hv : vbL (bd6 q) vs) (h : bdI T) : bdI (mtR q vs w T) := by
  have hl := hv.1
  have hb := hv.2
  rcases (show q = 0 ∨ q = 1 ∨ q = 2 ∨ q = 3 ∨ q = 4 ∨ q = 5 ∨ q = 6 ∨ q = 7 by omega) with rfl | rfl | rfl | rfl | rfl | rfl | rfl | rfl
  · intro i h1 h2
    unfold mtR
    rw [if_pos rfl, upd_n (by omega)]
    exact h i h1 h2
  · match vs, hl with
    | [a, b, c], _ =>
      have h0 : 0 ≤ a ∧ a < 10000 := hb 0 (by decide)
      have h1 : 0 ≤ b ∧ b < 1000 := hb 1 (by decide)
      have h2 : 0 ≤ c ∧ c < 10 := hb 2 (by decide)
      exact bdI_u (bdI_u (bdI_u h (k := 1) (by show a ≤ 9999; omega)) (k := 2) (by show b ≤ 999; omega)) (k := 3) (by show c ≤ 9; omega)
  · match vs, hl with
    | [a, b, c], _ =>
      have h0 : 0 ≤ a ∧ a < 10000 := hb 0 (by decide)
      have h1 : 0 ≤ b ∧ b < 1000 := hb 1 (by decide)
      have h2 : 0 ≤ c ∧ c < 10 := hb 2 (by decide)
      exact bdI_u (bdI_u (bdI_u h (k := 4) (by show a ≤ 9999; omega)) (k := 5) (by show b ≤ 999; omega)) (k := 6) (by show c ≤ 9; omega)
  · match vs, hl with
    | [a, b], _ =>
      have h0 : 0 ≤ a ∧ a < 10000 := hb 0 (by decide)
      have h1 : 0 ≤ b ∧ b < 101 := hb 1 (by decide)
      exact bdI_u (bdI_u h (k := 7) (by show a ≤ 9999; omega)) (k := 8) (by show b ≤ 100; omega)
  · match vs, hl with
    | [a, b, c], _ =>
      have h0 : 0 ≤ a ∧ a < 101 := hb 0 (by decide)
      have h1 : 0 ≤ b ∧ b < 51 := hb 1 (by decide)
      have h2 : 0 ≤ c ∧ c < 51 := hb 2 (by decide)
      exact bdI_u (bdI_u (bdI_u h (k := 9) (by show a ≤ 100; omega)) (k := 10) (by show b ≤ 50; omega)) (k := 11) (by show c ≤ 50; omega)
  · match vs, hl with
    | [a, b], _ =>
      have h0 : 0 ≤ a ∧ a < 10 := hb 0 (by decide)
      have h1 : 0 ≤ b ∧ b < 21 := hb 1 (by decide)
      exact bdI_u h (k := 15 + a) (show b ≤ mxA (15 + a) by unfold mxA; rw [if_pos (by omega)]; omega)
  · match vs, hl with
    | [a], _ =>
      have h0 : 0 ≤ a ∧ a < 10 := hb 0 (by decide)
      exact bdI_u h (k := 12) (by show a ≤ 9; omega)
  · match vs, hl with
    | [a, b], _ =>
      have h0 : 0 ≤ a ∧ a < 100 := hb 0 (by decide)
      have h1 : 0 ≤ b ∧ b < 100 := hb 1 (by decide)
      exact bdI_u (bdI_u h (k := 13) (by show a ≤ 99; omega)) (k := 14) (by show b ≤ 99; omega)
theorem bdI_F : ∀ (L : List (Nat × List Nat)) (w : Nat) (T : Nat → Int32), (∀ a ∈ L, a.1 < 8 ∧ vbL (bd6 a.1) a.2) → bdI T → bdI (mtF L w T)
  | [], _, _, _, h => h
  | a :: L, w, T, hL, h => bdI_F L (stW a.1 w) _ (fun b hb => hL b (List.mem_cons_of_mem _ hb)) (bdI_R (hL a List.mem_cons_self).1 (hL a List.mem_cons_self).2 h)
/-- the walls told: their strengths, what is mended -/
def bdS (w : Nat) (R3 R4 : Nat → Int32) : Prop := ∀ k, k < w → (∃ s, 1 ≤ s ∧ s ≤ 99 ∧ R3 k = nI s) ∧ ∃ a, a ≤ 50 ∧ R4 k = nI a
theorem bdS_F : ∀ (L : List (Nat × List Nat)) (w : Nat) (f m : Nat → Int32), (∀ a ∈ L, a.1 < 8 ∧ vbL (bd6 a.1) a.2) → bdS w f m → bdS (fdW L w) (fdT L w f) (fdM L w m)
  | [], _, _, _, _, h => h
  | a :: L, w, f, m, hL, h => by
    refine bdS_F L (stW a.1 w) (stT a.1 a.2 w f) (stM a.1 a.2 w m) (fun b hb => hL b (List.mem_cons_of_mem _ hb)) ?_
    obtain ⟨hq, hv⟩ := hL a List.mem_cons_self
    unfold stW stT stM
    by_cases e : a.1 = 0
    · rw [if_pos e, if_pos e, if_pos e]
      rw [e] at hv
      have h0 : 1 ≤ a.2.getD 0 0 ∧ a.2.getD 0 0 < 100 := hv.2 0 (by decide)
      have h1 : 0 ≤ a.2.getD 1 0 ∧ a.2.getD 1 0 < 51 := hv.2 1 (by decide)
      intro k hk
      by_cases c : k = w
      · rw [c, upd_s, upd_s]
        exact ⟨⟨_, h0.1, by omega, rfl⟩, ⟨_, by omega, rfl⟩⟩
      · rw [upd_n c, upd_n c]
        exact h k (by omega)
    · rw [if_neg e, if_neg e, if_neg e]
      exact h
/-- from another row: alike below w -/
theorem fdT_cg : ∀ (L : List (Nat × List Nat)) (w : Nat) (f g : Nat → Int32), (∀ k, k < w → f k = g k) → ∀ k, k < fdW L w → fdT L w f k = fdT L w g k
  | [], _, _, _, h => h
  | a :: L, w, f, g, h => by
    refine fdT_cg L (stW a.1 w) _ _ ?_
    unfold stW stT
    by_cases e : a.1 = 0
    · rw [if_pos e, if_pos e, if_pos e]
      intro k hk
      by_cases c : k = w
      · rw [c, upd_s, upd_s]
      · rw [upd_n c, upd_n c]; exact h k (by omega)
    · rw [if_neg e, if_neg e, if_neg e]; exact h
theorem fdM_cg : ∀ (L : List (Nat × List Nat)) (w : Nat) (f g : Nat → Int32), (∀ k, k < w → f k = g k) → ∀ k, k < fdW L w → fdM L w f k = fdM L w g k
  | [], _, _, _, h => h
  | a :: L, w, f, g, h => by
    refine fdM_cg L (stW a.1 w) _ _ ?_
    unfold stW stM
    by_cases e : a.1 = 0
    · rw [if_pos e, if_pos e, if_pos e]
      intro k hk
      by_cases c : k = w
      · rw [c, upd_s, upd_s]
      · rw [upd_n c, upd_n c]; exact h k (by omega)
    · rw [if_neg e, if_neg e, if_neg e]; exact h
/-- how things stand at a siege's beginning -/
def bgA (w : Nat) (T R3 : Nat → Int32) : Nat → Int32 := fun i => if i = 0 then T 1 else if i = 1 then T 4 else if i = 2 then T 7 else if i = 3 then T 2 else if i = 4 then T 5 else if i = 5 then T 9 else if i = 10 ∨ i = 11 then -1 else if 12 ≤ i ∧ i < 12 + w then R3 (i - 12) else 0
/-- a contract as it is told: its breaches, its numbers -/
def ctB (L : List (Nat × List Nat)) : Nat → Int32 := fdB L (flF (fun _ => -1) (fun _ => 0) 36)
def ctC (L : List (Nat × List Nat)) : Nat → Int32 := fun i => if i = 1 then (if fdRl L (flF iniF (fun _ => 0) 7) 1 = -1 then fdRl L (flF iniF (fun _ => 0) 7) 0 else fdRl L (flF iniF (fun _ => 0) 7) 1) else if i = 6 then nI (cnF (ctB L) 36) else fdRl L (flF iniF (fun _ => 0) 7) i
/-- offers, as the class keeps them -/
def ofC (co : Nat → Int32) (R : Rw) : Prop := ∀ m, m < 12 → co (m * 3) = 0 ∧ co (m * 3 + 1) = R 30 m ∧ co (m * 3 + 2) = R 31 m
def rwU (R : Rw) (i : Nat) (f : Nat → Int32) : Rw := fun j => if j = i then f else R j
theorem rwU_n {R : Rw} {i j : Nat} {f : Nat → Int32} (h : j ≠ i) : rwU R i f j = R j := if_neg h
theorem rwU_s {R : Rw} {i : Nat} {f : Nat → Int32} : rwU R i f i = f := if_pos rfl
theorem rl_cg : ∀ (L : List (Nat × List Nat)) (f g : Nat → Int32), (∀ i, i < 6 → f i = g i) → ∀ i, i < 6 → fdRl L f i = fdRl L g i
  | [], _, _, h => h
  | a :: L, f, g, h => rl_cg L _ _ (fun i hi => by
    unfold rlD
    split
    · exact h i hi
    · by_cases e : i = a.1
      · rw [e, upd_s, upd_s]
      · rw [upd_n e, upd_n e]; exact h i hi)
theorem rb_cg : ∀ (L : List (Nat × List Nat)) (f g : Nat → Int32), (∀ i, i < 36 → f i = g i) → ∀ i, i < 36 → fdB L f i = fdB L g i
  | [], _, _, h => h
  | a :: L, f, g, h => rb_cg L _ _ (fun i hi => by
    unfold rlB
    split
    · by_cases e : i = a.2.getD 1 0
      · rw [e, upd_s, upd_s]
      · rw [upd_n e, upd_n e]; exact h i hi
    · exact h i hi)
theorem cn_cg {f g : Nat → Int32} : ∀ n, (∀ i, i < n → f i = g i) → cnF f n = cnF g n
  | 0, _ => rfl
  | n + 1, h => by rw [cnF, cnF, cn_cg n (fun i hi => h i (by omega)), h n (by omega)]
