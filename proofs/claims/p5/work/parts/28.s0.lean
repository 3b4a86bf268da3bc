/-! a battle in earnest, counted in both ways (DRAFT, untried): rows of three digits against sets of walls -/
def bt (s k : Nat) : Bool := s / 2 ^ k % 2 == 1
def s3 (f : Nat → Nat) : Nat := f 0 + f 1 + f 2
def dgt (row k : Nat) : Nat := if k = 0 then row / 49 else if k = 1 then row / 7 % 7 else row % 7
def puB (row n A : Nat) : Bool := (bt A 0 || dgt row 0 == 0) && (bt A 1 || dgt row 1 == 0) && (bt A 2 || dgt row 2 == 0) && (dgt row 0 + dgt row 1 + dgt row 2 == n || A == 0)
def fal (W : Nat → Nat) (A : Nat) (e p : Nat → Nat) : Nat := s3 (fun k => if bt A k = true ∧ p k + W k / 25 < e k then W k else 0)
def wor (W : Nat → Nat) (s : Nat) : Nat := s3 (fun k => if bt s k = true then W k else 0)
def nee (W p : Nat → Nat) (s : Nat) : Nat := s3 (fun k => if bt s k = true then p k + W k / 25 + 1 else 0)
def hol (W e : Nat → Nat) (s : Nat) : Nat := s3 (fun k => if bt s k = true then e k - W k / 25 else 0)
def msk (f : Nat → Bool) : Nat := (if f 0 then 1 else 0) + (if f 1 then 2 else 0) + (if f 2 then 4 else 0)
theorem msk_lt (f : Nat → Bool) : msk f < 8 := by
  unfold msk
  cases f 0 <;> cases f 1 <;> cases f 2 <;> decide
theorem bt_msk0 (f : Nat → Bool) : bt (msk f) 0 = f 0 := by
  unfold msk
  cases f 0 <;> cases f 1 <;> cases f 2 <;> decide
theorem bt_msk1 (f : Nat → Bool) : bt (msk f) 1 = f 1 := by
  unfold msk
  cases f 0 <;> cases f 1 <;> cases f 2 <;> decide
theorem bt_msk2 (f : Nat → Bool) : bt (msk f) 2 = f 2 := by
  unfold msk
  cases f 0 <;> cases f 1 <;> cases f 2 <;> decide
theorem s3_le {f g : Nat → Nat} (h0 : f 0 ≤ g 0) (h1 : f 1 ≤ g 1) (h2 : f 2 ≤ g 2) : s3 f ≤ s3 g := by
  unfold s3
  omega
theorem s3_e {f g : Nat → Nat} (h0 : f 0 = g 0) (h1 : f 1 = g 1) (h2 : f 2 = g 2) : s3 f = s3 g := by
  unfold s3
  omega
/-- the most over those below n -/
def mxF (P : Nat → Bool) (v : Nat → Nat) : Nat → Nat
  | 0 => 0
  | n + 1 => if P n = true ∧ mxF P v n < v n then v n else mxF P v n
theorem mx_ge {P : Nat → Bool} {v : Nat → Nat} : ∀ N n, n < N → P n = true → v n ≤ mxF P v N
  | 0, n, h, _ => absurd h (Nat.not_lt_zero n)
  | N + 1, n, h, hp => by
    rw [mxF]
    by_cases e : n = N
    · subst e
      split
      · exact Nat.le_refl _
      · rename_i c
        exact Nat.le_of_not_lt (fun h9 => c ⟨hp, h9⟩)
    · have := mx_ge (P := P) (v := v) N n (by omega) hp
      split
      · rename_i c
        omega
      · exact this
theorem mx_le {P : Nat → Bool} {v : Nat → Nat} {B : Nat} : ∀ N, (∀ n, n < N → P n = true → v n ≤ B) → mxF P v N ≤ B
  | 0, _ => Nat.zero_le _
  | N + 1, h => by
    rw [mxF]
    split
    · rename_i c
      exact h N (by omega) c.1
    · exact mx_le N (fun n hn hp => h n (by omega) hp)
/-- the least over those below n, if there is one -/
def mnO (P : Nat → Bool) (v : Nat → Nat) : Nat → Option Nat
  | 0 => none
  | n + 1 => if P n = true then (match mnO P v n with
    | none => some (v n)
    | some b => if v n < b then some (v n) else some b) else mnO P v n
theorem mn_is {P : Nat → Bool} {v : Nat → Nat} {B : Nat} : ∀ N, (∀ n, n < N → P n = true → B ≤ v n) → (∃ n, n < N ∧ P n = true ∧ v n ≤ B) → mnO P v N = some B
  | 0, _, h => by obtain ⟨n, h, -⟩ := h; exact absurd h (Nat.not_lt_zero n)
  | N + 1, h, hx => by
    have ih := mn_is (P := P) (v := v) (B := B) N (fun n hn hp => h n (by omega) hp)
    rw [mnO]
    by_cases c : ∃ n, n < N ∧ P n = true ∧ v n ≤ B
    · rw [ih c]
      split
      · rename_i hp
        have := h N (by omega) hp
        show (if v N < B then some (v N) else some B) = some B
        rw [if_neg (by omega)]
      · rfl
    · obtain ⟨n, h1, h2, h3⟩ := hx
      have e : n = N := by
        apply Decidable.byContradiction
        intro h9
        exact c ⟨n, by omega, h2, h3⟩
      subst e
      have hv : v n = B := Nat.le_antisymm h3 (h n (by omega) h2)
      rw [if_pos h2]
      have key : ∀ M, M ≤ n → mnO P v M = none ∨ ∃ b, mnO P v M = some b ∧ B < b := by
        intro M
        induction M with
        | zero => intro _; exact Or.inl rfl
        | succ M ihM =>
          intro hM
          have hb : P M = true → B < v M := fun hp => Nat.lt_of_not_le (fun h9 => c ⟨M, by omega, hp, h9⟩)
          rw [mnO]
          by_cases hp : P M = true
          · rw [if_pos hp]
            rcases ihM (by omega) with e | ⟨b, e, hb2⟩
            · rw [e]; exact Or.inr ⟨v M, rfl, hb hp⟩
            · rw [e]
              by_cases hq : v M < b
              · exact Or.inr ⟨v M, if_pos hq, hb hp⟩
              · exact Or.inr ⟨b, if_neg hq, hb2⟩
          · rw [if_neg hp]
            exact ihM (by omega)
      rcases key n (Nat.le_refl n) with e | ⟨b, e, hb2⟩
      · rw [e]; show some (v n) = some B; rw [hv]
      · rw [e]
        show (if v n < b then some (v n) else some b) = some B
        rw [if_pos (by omega), hv]
/-- a row out of three digits -/
def rwD (e : Nat → Nat) : Nat := 49 * e 0 + 7 * e 1 + e 2
theorem dgt_rw {e : Nat → Nat} (h0 : e 0 ≤ 6) (h1 : e 1 ≤ 6) (h2 : e 2 ≤ 6) : dgt (rwD e) 0 = e 0 ∧ dgt (rwD e) 1 = e 1 ∧ dgt (rwD e) 2 = e 2 ∧ rwD e < 343 := by
  unfold dgt rwD
  refine ⟨?_, ?_, ?_, by omega⟩
  · rw [if_pos rfl]; omega
  · rw [if_neg (by decide), if_pos rfl]; omega
  · rw [if_neg (by decide), if_neg (by decide)]; omega
theorem pu_iff {row n A : Nat} (hA : A ≠ 0) : puB row n A = true ↔ (bt A 0 = false → dgt row 0 = 0) ∧ (bt A 1 = false → dgt row 1 = 0) ∧ (bt A 2 = false → dgt row 2 = 0) ∧ dgt row 0 + dgt row 1 + dgt row 2 = n := by
  unfold puB
  cases bt A 0 <;> cases bt A 1 <;> cases bt A 2 <;> simp [hA] <;> omega
/-- some wall of the set -/
theorem bt_ex {A : Nat} (h8 : A < 8) (hA : A ≠ 0) : bt A 0 = true ∨ (bt A 0 = false ∧ bt A 1 = true) ∨ (bt A 0 = false ∧ bt A 1 = false ∧ bt A 2 = true) := by
  rcases (show A = 1 ∨ A = 2 ∨ A = 3 ∨ A = 4 ∨ A = 5 ∨ A = 6 ∨ A = 7 by omega) with rfl | rfl | rfl | rfl | rfl | rfl | rfl <;> decide
def subB (s A : Nat) : Bool := (!bt s 0 || bt A 0) && (!bt s 1 || bt A 1) && (!bt s 2 || bt A 2)
theorem sub_0 {s A : Nat} (h : subB s A = true) (c : bt s 0 = true) : bt A 0 = true := by
  unfold subB at h
  rw [c] at h
  cases hb : bt A 0
  · rw [hb] at h; simp at h
  · rfl
theorem sub_1 {s A : Nat} (h : subB s A = true) (c : bt s 1 = true) : bt A 1 = true := by
  unfold subB at h
  rw [c] at h
  cases hb : bt A 1
  · rw [hb] at h; simp at h
  · rfl
theorem sub_2 {s A : Nat} (h : subB s A = true) (c : bt s 2 = true) : bt A 2 = true := by
  unfold subB at h
  rw [c] at h
  cases hb : bt A 2
  · rw [hb] at h; simp at h
  · rfl
section BA
variable {W p e : Nat → Nat} {A a d s : Nat}
theorem sub_and {f : Nat → Bool} : subB (msk (fun k => bt A k && f k)) A = true := by
  unfold subB
  rw [bt_msk0, bt_msk1, bt_msk2]
  cases bt A 0 <;> cases bt A 1 <;> cases bt A 2 <;> simp
theorem fell_row (hA : A ≠ 0) (ha : a ≤ 6) (hsub : subB s A = true) (e : Nat → Nat) (hsum : e 0 + e 1 + e 2 = a) (z0 : bt A 0 = false → e 0 = 0) (z1 : bt A 1 = false → e 1 = 0) (z2 : bt A 2 = false → e 2 = 0) (g0 : (if bt s 0 = true then p 0 + W 0 / 25 + 1 else 0) ≤ e 0) (g1 : (if bt s 1 = true then p 1 + W 1 / 25 + 1 else 0) ≤ e 1) (g2 : (if bt s 2 = true then p 2 + W 2 / 25 + 1 else 0) ≤ e 2) : wor W s ≤ mxF (fun r => puB r a A) (fun r => fal W A (dgt r) p) 343 := by
  obtain ⟨d0, d1, d2, hr⟩ := dgt_rw (e := e) (by omega) (by omega) (by omega)
  have hp : puB (rwD e) a A = true := (pu_iff hA).mpr ⟨fun h => by rw [d0]; exact z0 h, fun h => by rw [d1]; exact z1 h, fun h => by rw [d2]; exact z2 h, by rw [d0, d1, d2]; exact hsum⟩
  refine Nat.le_trans ?_ (mx_ge (P := fun r => puB r a A) (v := fun r => fal W A (dgt r) p) 343 (rwD e) hr hp)
  show wor W s ≤ fal W A (dgt (rwD e)) p
  unfold wor fal
  refine s3_le ?_ ?_ ?_
  · try dsimp only
    by_cases c : bt s 0 = true
    · rw [if_pos c] at g0
      rw [if_pos c, if_pos ⟨sub_0 hsub c, by rw [d0]; omega⟩]
      exact Nat.le_refl _
    · rw [if_neg c]; exact Nat.zero_le _
  · try dsimp only
    by_cases c : bt s 1 = true
    · rw [if_pos c] at g1
      rw [if_pos c, if_pos ⟨sub_1 hsub c, by rw [d1]; omega⟩]
      exact Nat.le_refl _
    · rw [if_neg c]; exact Nat.zero_le _
  · try dsimp only
    by_cases c : bt s 2 = true
    · rw [if_pos c] at g2
      rw [if_pos c, if_pos ⟨sub_2 hsub c, by rw [d2]; omega⟩]
      exact Nat.le_refl _
    · rw [if_neg c]; exact Nat.zero_le _
/-- what falls at the worst: over the enemy's rows, over the sets that he can fell -/
theorem fell_max (h8 : A < 8) (hA : A ≠ 0) (ha : a ≤ 6) : mxF (fun r => puB r a A) (fun r => fal W A (dgt r) p) 343 = mxF (fun s => subB s A && decide (nee W p s ≤ a)) (wor W) 8 := by
  apply Nat.le_antisymm
  · refine mx_le 343 (fun r hr hp => ?_)
    try dsimp only at hp ⊢
    obtain ⟨z0, z1, z2, hs⟩ := (pu_iff hA).mp hp
    have hsub : subB (msk (fun k => bt A k && decide (p k + W k / 25 < dgt r k))) A = true := sub_and
    have b0 := bt_msk0 (fun k => bt A k && decide (p k + W k / 25 < dgt r k))
    have b1 := bt_msk1 (fun k => bt A k && decide (p k + W k / 25 < dgt r k))
    have b2 := bt_msk2 (fun k => bt A k && decide (p k + W k / 25 < dgt r k))
    have hl := msk_lt (fun k => bt A k && decide (p k + W k / 25 < dgt r k))
    generalize msk (fun k => bt A k && decide (p k + W k / 25 < dgt r k)) = S at hsub b0 b1 b2 hl
    have e : fal W A (dgt r) p = wor W S := by
      unfold fal wor
      refine s3_e ?_ ?_ ?_
      · simp only [b0, Bool.and_eq_true, decide_eq_true_eq]
      · simp only [b1, Bool.and_eq_true, decide_eq_true_eq]
      · simp only [b2, Bool.and_eq_true, decide_eq_true_eq]
    have hn : nee W p S ≤ a := by
      rw [← hs]
      show nee W p S ≤ s3 (dgt r)
      unfold nee
      refine s3_le ?_ ?_ ?_
      · simp only [b0, Bool.and_eq_true, decide_eq_true_eq]
        split <;> omega
      · simp only [b1, Bool.and_eq_true, decide_eq_true_eq]
        split <;> omega
      · simp only [b2, Bool.and_eq_true, decide_eq_true_eq]
        split <;> omega
    rw [e]
    exact mx_ge (P := fun s => subB s A && decide (nee W p s ≤ a)) (v := wor W) 8 S hl (by simp [hsub, hn])
  · refine mx_le 8 (fun s hs hp => ?_)
    have hsub : subB s A = true := (Bool.and_eq_true _ _ ▸ hp).1
    have hn : nee W p s ≤ a := of_decide_eq_true (Bool.and_eq_true _ _ ▸ hp).2
    have hn9 : (if bt s 0 = true then p 0 + W 0 / 25 + 1 else 0) + (if bt s 1 = true then p 1 + W 1 / 25 + 1 else 0) + (if bt s 2 = true then p 2 + W 2 / 25 + 1 else 0) ≤ a := hn
    have y0 : bt A 0 = false → (if bt s 0 = true then p 0 + W 0 / 25 + 1 else 0) = 0 := fun h => if_neg (fun c => by rw [sub_0 hsub c] at h; exact absurd h (by decide))
    have y1 : bt A 1 = false → (if bt s 1 = true then p 1 + W 1 / 25 + 1 else 0) = 0 := fun h => if_neg (fun c => by rw [sub_1 hsub c] at h; exact absurd h (by decide))
    have y2 : bt A 2 = false → (if bt s 2 = true then p 2 + W 2 / 25 + 1 else 0) = 0 := fun h => if_neg (fun c => by rw [sub_2 hsub c] at h; exact absurd h (by decide))
    have main : ∀ k0 k1 k2 : Nat, (if bt s 0 = true then p 0 + W 0 / 25 + 1 else 0) + k0 + ((if bt s 1 = true then p 1 + W 1 / 25 + 1 else 0) + k1) + ((if bt s 2 = true then p 2 + W 2 / 25 + 1 else 0) + k2) = a → (bt A 0 = false → k0 = 0) → (bt A 1 = false → k1 = 0) → (bt A 2 = false → k2 = 0) → wor W s ≤ mxF (fun r => puB r a A) (fun r => fal W A (dgt r) p) 343 := by
      intro k0 k1 k2 hk x0 x1 x2
      exact fell_row hA ha hsub (fun k => if k = 0 then (if bt s 0 = true then p 0 + W 0 / 25 + 1 else 0) + k0 else if k = 1 then (if bt s 1 = true then p 1 + W 1 / 25 + 1 else 0) + k1 else (if bt s 2 = true then p 2 + W 2 / 25 + 1 else 0) + k2) hk
        (fun h => by show (if bt s 0 = true then p 0 + W 0 / 25 + 1 else 0) + k0 = 0; rw [y0 h, x0 h]) (fun h => by show (if bt s 1 = true then p 1 + W 1 / 25 + 1 else 0) + k1 = 0; rw [y1 h, x1 h]) (fun h => by show (if bt s 2 = true then p 2 + W 2 / 25 + 1 else 0) + k2 = 0; rw [y2 h, x2 h])
        (Nat.le_add_right _ _) (Nat.le_add_right _ _) (Nat.le_add_right _ _)
    generalize (if bt s 0 = true then p 0 + W 0 / 25 + 1 else 0) = n0 at hn9 main
    generalize (if bt s 1 = true then p 1 + W 1 / 25 + 1 else 0) = n1 at hn9 main
    generalize (if bt s 2 = true then p 2 + W 2 / 25 + 1 else 0) = n2 at hn9 main
    rcases bt_ex h8 hA with c | ⟨c, c1⟩ | ⟨c, c1, c2⟩
    · exact main (a - (n0 + n1 + n2)) 0 0 (by omega) (fun h => absurd (h.symm.trans c) (by decide)) (fun _ => rfl) (fun _ => rfl)
    · exact main 0 (a - (n0 + n1 + n2)) 0 (by omega) (fun _ => rfl) (fun h => absurd (h.symm.trans c1) (by decide)) (fun _ => rfl)
    · exact main 0 0 (a - (n0 + n1 + n2)) (by omega) (fun _ => rfl) (fun _ => rfl) (fun h => absurd (h.symm.trans c2) (by decide))
/-- what holds, and what falls: all together -/
theorem fal_hold (W : Nat → Nat) (A : Nat) (e p : Nat → Nat) : fal W A e p + wor W (msk (fun k => bt A k && decide (e k ≤ p k + W k / 25))) = wor W A := by
  have b0 := bt_msk0 (fun k => bt A k && decide (e k ≤ p k + W k / 25))
  have b1 := bt_msk1 (fun k => bt A k && decide (e k ≤ p k + W k / 25))
  have b2 := bt_msk2 (fun k => bt A k && decide (e k ≤ p k + W k / 25))
  generalize msk (fun k => bt A k && decide (e k ≤ p k + W k / 25)) = S at b0 b1 b2
  unfold fal wor s3
  simp only [b0, b1, b2, Bool.and_eq_true, decide_eq_true_eq]
  have key : ∀ (k : Nat), (if bt A k = true ∧ p k + W k / 25 < e k then W k else 0) + (if bt A k = true ∧ e k ≤ p k + W k / 25 then W k else 0) = if bt A k = true then W k else 0 := by
    intro k
    by_cases c : bt A k = true
    · by_cases c2 : e k ≤ p k + W k / 25
      · have n1 : ¬ (bt A k = true ∧ p k + W k / 25 < e k) := fun h => absurd h.2 (by omega)
        simp only [if_neg n1, if_pos (And.intro c c2), if_pos c, Nat.zero_add]
      · have c3 : p k + W k / 25 < e k := by omega
        have n2 : ¬ (bt A k = true ∧ e k ≤ p k + W k / 25) := fun h => c2 h.2
        simp only [if_pos (And.intro c c3), if_neg n2, if_pos c, Nat.add_zero]
    · have n1 : ¬ (bt A k = true ∧ p k + W k / 25 < e k) := fun h => c h.1
      have n2 : ¬ (bt A k = true ∧ e k ≤ p k + W k / 25) := fun h => c h.1
      simp only [if_neg n1, if_neg n2, if_neg c, Nat.add_zero]
  have k0 := key 0
  have k1 := key 1
  have k2 := key 2
  omega
end BA
theorem mx_at {P : Nat → Bool} {v : Nat → Nat} : ∀ N, mxF P v N = 0 ∨ ∃ n, n < N ∧ P n = true ∧ v n = mxF P v N
  | 0 => Or.inl rfl
  | N + 1 => by
    rw [mxF]
    split
    · rename_i c
      exact Or.inr ⟨N, by omega, c.1, rfl⟩
    · rcases mx_at (P := P) (v := v) N with h | ⟨n, h1, h2, h3⟩
      · exact Or.inl h
      · exact Or.inr ⟨n, by omega, h2, h3⟩
section BB
variable {W e : Nat → Nat} {A d s : Nat}
theorem hold_row (hA : A ≠ 0) (hd : d ≤ 6) (hsub : subB s A = true) (p : Nat → Nat) (hsum : p 0 + p 1 + p 2 = d) (z0 : bt A 0 = false → p 0 = 0) (z1 : bt A 1 = false → p 1 = 0) (z2 : bt A 2 = false → p 2 = 0) (g0 : (if bt s 0 = true then e 0 - W 0 / 25 else 0) ≤ p 0) (g1 : (if bt s 1 = true then e 1 - W 1 / 25 else 0) ≤ p 1) (g2 : (if bt s 2 = true then e 2 - W 2 / 25 else 0) ≤ p 2) : ∃ r, r < 343 ∧ puB r d A = true ∧ fal W A e (dgt r) ≤ wor W A - wor W s := by
  obtain ⟨d0, d1, d2, hr⟩ := dgt_rw (e := p) (by omega) (by omega) (by omega)
  refine ⟨rwD p, hr, (pu_iff hA).mpr ⟨fun h => by rw [d0]; exact z0 h, fun h => by rw [d1]; exact z1 h, fun h => by rw [d2]; exact z2 h, by rw [d0, d1, d2]; exact hsum⟩, ?_⟩
  have hf := fal_hold W A e (dgt (rwD p))
  have b0 := bt_msk0 (fun k => bt A k && decide (e k ≤ dgt (rwD p) k + W k / 25))
  have b1 := bt_msk1 (fun k => bt A k && decide (e k ≤ dgt (rwD p) k + W k / 25))
  have b2 := bt_msk2 (fun k => bt A k && decide (e k ≤ dgt (rwD p) k + W k / 25))
  generalize msk (fun k => bt A k && decide (e k ≤ dgt (rwD p) k + W k / 25)) = S at hf b0 b1 b2
  have hw : wor W s ≤ wor W S := by
    unfold wor
    refine s3_le ?_ ?_ ?_
    · try dsimp only
      by_cases c : bt s 0 = true
      · rw [if_pos c] at g0
        have hb : bt S 0 = true := by rw [b0, sub_0 hsub c, d0]; exact decide_eq_true (by omega)
        rw [if_pos c, if_pos hb]; exact Nat.le_refl _
      · rw [if_neg c]; exact Nat.zero_le _
    · try dsimp only
      by_cases c : bt s 1 = true
      · rw [if_pos c] at g1
        have hb : bt S 1 = true := by rw [b1, sub_1 hsub c, d1]; exact decide_eq_true (by omega)
        rw [if_pos c, if_pos hb]; exact Nat.le_refl _
      · rw [if_neg c]; exact Nat.zero_le _
    · try dsimp only
      by_cases c : bt s 2 = true
      · rw [if_pos c] at g2
        have hb : bt S 2 = true := by rw [b2, sub_2 hsub c, d2]; exact decide_eq_true (by omega)
        rw [if_pos c, if_pos hb]; exact Nat.le_refl _
      · rw [if_neg c]; exact Nat.zero_le _
  omega
/-- what falls at the least: over the duke's rows, over the sets that he can hold -/
theorem hold_min (h8 : A < 8) (hA : A ≠ 0) (hd : d ≤ 6) : mnO (fun r => puB r d A) (fun r => fal W A e (dgt r)) 343 = some (wor W A - mxF (fun s => subB s A && decide (hol W e s ≤ d)) (wor W) 8) := by
  apply mn_is 343
  · intro r hr hp
    try dsimp only at hp ⊢
    obtain ⟨z0, z1, z2, hs⟩ := (pu_iff hA).mp hp
    have hf := fal_hold W A e (dgt r)
    have hsub : subB (msk (fun k => bt A k && decide (e k ≤ dgt r k + W k / 25))) A = true := sub_and
    have b0 := bt_msk0 (fun k => bt A k && decide (e k ≤ dgt r k + W k / 25))
    have b1 := bt_msk1 (fun k => bt A k && decide (e k ≤ dgt r k + W k / 25))
    have b2 := bt_msk2 (fun k => bt A k && decide (e k ≤ dgt r k + W k / 25))
    have hl := msk_lt (fun k => bt A k && decide (e k ≤ dgt r k + W k / 25))
    generalize msk (fun k => bt A k && decide (e k ≤ dgt r k + W k / 25)) = S at hf hsub b0 b1 b2 hl
    have hn : hol W e S ≤ d := by
      rw [← hs]
      show hol W e S ≤ s3 (dgt r)
      unfold hol
      refine s3_le ?_ ?_ ?_
      · simp only [b0, Bool.and_eq_true, decide_eq_true_eq]
        split <;> omega
      · simp only [b1, Bool.and_eq_true, decide_eq_true_eq]
        split <;> omega
      · simp only [b2, Bool.and_eq_true, decide_eq_true_eq]
        split <;> omega
    have := mx_ge (P := fun s => subB s A && decide (hol W e s ≤ d)) (v := wor W) 8 S hl (by simp [hsub, hn])
    omega
  · have hex : ∃ s, s < 8 ∧ (subB s A && decide (hol W e s ≤ d)) = true ∧ wor W s = mxF (fun s => subB s A && decide (hol W e s ≤ d)) (wor W) 8 := by
      rcases mx_at (P := fun s => subB s A && decide (hol W e s ≤ d)) (v := wor W) 8 with h | h
      · refine ⟨0, by decide, ?_, h.symm ▸ rfl⟩
        have h1 : subB 0 A = true := rfl
        have h2 : hol W e 0 = 0 := rfl
        show (subB 0 A && decide (hol W e 0 ≤ d)) = true
        rw [h1, Bool.true_and]
        exact decide_eq_true (p := hol W e 0 ≤ d) (by rw [h2]; exact Nat.zero_le d)
      · exact h
    obtain ⟨s, hs, hp, hv⟩ := hex
    rw [← hv]
    have hsub : subB s A = true := (Bool.and_eq_true _ _ ▸ hp).1
    have hn : hol W e s ≤ d := of_decide_eq_true (Bool.and_eq_true _ _ ▸ hp).2
    have hn9 : (if bt s 0 = true then e 0 - W 0 / 25 else 0) + (if bt s 1 = true then e 1 - W 1 / 25 else 0) + (if bt s 2 = true then e 2 - W 2 / 25 else 0) ≤ d := hn
    have y0 : bt A 0 = false → (if bt s 0 = true then e 0 - W 0 / 25 else 0) = 0 := fun h => if_neg (fun c => by rw [sub_0 hsub c] at h; exact absurd h (by decide))
    have y1 : bt A 1 = false → (if bt s 1 = true then e 1 - W 1 / 25 else 0) = 0 := fun h => if_neg (fun c => by rw [sub_1 hsub c] at h; exact absurd h (by decide))
    have y2 : bt A 2 = false → (if bt s 2 = true then e 2 - W 2 / 25 else 0) = 0 := fun h => if_neg (fun c => by rw [sub_2 hsub c] at h; exact absurd h (by decide))
    have main : ∀ k0 k1 k2 : Nat, (if bt s 0 = true then e 0 - W 0 / 25 else 0) + k0 + ((if bt s 1 = true then e 1 - W 1 / 25 else 0) + k1) + ((if bt s 2 = true then e 2 - W 2 / 25 else 0) + k2) = d → (bt A 0 = false → k0 = 0) → (bt A 1 = false → k1 = 0) → (bt A 2 = false → k2 = 0) → ∃ r, r < 343 ∧ puB r d A = true ∧ fal W A e (dgt r) ≤ wor W A - wor W s := by
      intro k0 k1 k2 hk x0 x1 x2
      exact hold_row hA hd hsub (fun k => if k = 0 then (if bt s 0 = true then e 0 - W 0 / 25 else 0) + k0 else if k = 1 then (if bt s 1 = true then e 1 - W 1 / 25 else 0) + k1 else (if bt s 2 = true then e 2 - W 2 / 25 else 0) + k2) hk
        (fun h => by show (if bt s 0 = true then e 0 - W 0 / 25 else 0) + k0 = 0; rw [y0 h, x0 h]) (fun h => by show (if bt s 1 = true then e 1 - W 1 / 25 else 0) + k1 = 0; rw [y1 h, x1 h]) (fun h => by show (if bt s 2 = true then e 2 - W 2 / 25 else 0) + k2 = 0; rw [y2 h, x2 h])
        (Nat.le_add_right _ _) (Nat.le_add_right _ _) (Nat.le_add_right _ _)
    generalize (if bt s 0 = true then e 0 - W 0 / 25 else 0) = n0 at hn9 main
    generalize (if bt s 1 = true then e 1 - W 1 / 25 else 0) = n1 at hn9 main
    generalize (if bt s 2 = true then e 2 - W 2 / 25 else 0) = n2 at hn9 main
    rcases bt_ex h8 hA with c | ⟨c, c1⟩ | ⟨c, c1, c2⟩
    · exact main (d - (n0 + n1 + n2)) 0 0 (by omega) (fun h => absurd (h.symm.trans c) (by decide)) (fun _ => rfl) (fun _ => rfl)
    · exact main 0 (d - (n0 + n1 + n2)) 0 (by omega) (fun _ => rfl) (fun h => absurd (h.symm.trans c1) (by decide)) (fun _ => rfl)
    · exact main 0 0 (d - (n0 + n1 + n2)) (by omega) (fun _ => rfl) (fun _ => rfl) (fun h => absurd (h.symm.trans c2) (by decide))
end BB
/-! the order in which the two sides try the duke's (the enemy's) men: the same -/
/-- the class's way: x, then y, the rest z -/
def clL (n A : Nat) : List Nat := (List.range (n + 1)).flatMap (fun x => ((List.range (n + 1 - x)).map (fun y => 49 * x + 7 * y + (n - x - y))).filter (fun r => puB r n A))
theorem cl_rows : ∀ n, n < 7 → ∀ A, A < 8 → A ≠ 0 → (List.range 343).filter (fun r => puB r n A) = clL n A := by decide +kernel
