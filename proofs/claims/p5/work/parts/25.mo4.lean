/-! a month, as the class counts it -/
theorem par2 : ∀ i : Nat, i < 101 → ((nI i - nI i / 2 * 2 = 0) ↔ i % 2 = 0) := by decide +kernel
theorem dm_a {q i : Nat} {cl : Int32} (h : cl = if q ≤ 4 then 1 else 0) (h0 : cl = 0) : 1 = dmI q i := by
  unfold dmI
  by_cases c : q ≤ 4
  · rw [if_pos c] at h; rw [h] at h0; exact absurd h0 (by decide)
  · rw [if_neg (fun h9 => c h9.1)]
theorem dm_b {q i : Nat} (hi : i < 101) (h : ¬ nI i - nI i / 2 * 2 = 0) : 1 = dmI q i := by
  unfold dmI
  rw [if_neg (fun h9 => h ((par2 i hi).mpr h9.2))]
theorem dm_c {q i : Nat} {cl : Int32} (h : cl = if q ≤ 4 then 1 else 0) (h0 : ¬ cl = 0) (hi : i < 101) (h2 : nI i - nI i / 2 * 2 = 0) : 2 = dmI q i := by
  unfold dmI
  by_cases c : q ≤ 4
  · rw [if_pos ⟨c, (par2 i hi).mp h2⟩]
  · rw [if_neg c] at h; exact absurd h h0
theorem wd_eq {wb : Nat → Int32} {it w : Nat} (hi : it < 36) (hw : w ≤ 6) (h : wb it = -1 ∨ ∃ k, k < w ∧ wb it = nI k) : wdF wb (nI it) (nI w) = wb it := by
  have e : wdX wb (nI it) = wb it := by
    unfold wdX
    rw [if_neg (show ¬ he_within (nI it) 0 35 = 0 from nI_inB (B := 35) (by decide) (show it ≤ 35 by omega)), nI_clamp (by omega)]
  unfold wdF
  rw [e]
  rcases h with h | ⟨k, hk, h⟩
  · rw [h]
    split <;> rfl
  · rw [h, if_neg (fun h9 => absurd ((nI_leI (by omega) (by omega)).mp h9) (by omega))]
/-- how the shooting stands behind n corks -/
def shR (T st : Nat → Int32) (pb due : Int32) (q w : Nat) (f g : Nat → Int32) (n : Nat) (t : Int32) (F G : Nat → Int32) : Prop :=
  F = (rSh T st pb due q w f g n).1 ∧ G = (rSh T st pb due q w f g n).2.1 ∧ (t = -1 ∨ ∃ k, k < 6 ∧ t = nI k ∧ k = aimK due F w) ∧ (∀ k, k < w → 0 < F (12 + k)) ∧ ∀ dk, dk < 6 → due = nI dk → ∃ b, b ≤ n ∧ F (18 + dk) = f (18 + dk) + nI b ∧ (rSh T st pb due q w f g n).2.2 = if b = 0 then 0 else 1
section SHR
variable {T st f g F G : Nat → Int32} {pb due t : Int32} {q w n k : Nat}
theorem i32_a0 (x : Int32) : x + nI 0 = x := by
  rw [show nI 0 = 0 from rfl, Int32.add_zero]
theorem i32_0a (x : Int32) : x + 0 = x := Int32.add_zero x
theorem shR_0 (hB : ∀ k, k < w → 0 < f (12 + k)) : shR T st pb due q w f g 0 (-1) f g := ⟨rfl, rfl, Or.inl rfl, hB, fun dk _ _ => ⟨0, Nat.le_refl 0, (i32_a0 _).symm, rfl⟩⟩
theorem shR_s (hw : 0 < w) (hw6 : w ≤ 6) (hd : due = -1 ∨ ∃ k, k < w ∧ due = nI k) (h : shR T st pb due q w f g n t F G) (hk : k = aimK due F w) (hc : 0 < hitF F k (dmI q (n + 1)) (12 + k)) : shR T st pb due q w f g (n + 1) (nI k) (hitF F k (dmI q (n + 1))) (upd G k (G k + 1)) := by
  obtain ⟨e1, e2, -, hB, hf⟩ := h
  have hl : k < w := by rw [hk]; exact aim_lt hw hd hw6
  have eX : rSh T st pb due q w f g (n + 1) = (hitF F k (dmI q (n + 1)), upd G k (G k + 1), (rSh T st pb due q w f g n).2.2) := by
    show rHit T st pb due q w (n + 1) (rSh T st pb due q w f g n) = _
    unfold rHit
    rw [← e1, ← e2, ← hk, if_pos hc]
  unfold shR
  rw [eX]
  refine ⟨rfl, rfl, Or.inr ⟨k, by omega, rfl, ?_⟩, fun j hj => ?_, fun dk hdk he => ?_⟩
  · have := aim_stick (F := F) (due := due) (q := q) (i := n + 1) hw (by rw [← hk]; exact hB k hl)
    rw [← hk] at this
    exact this.symm
  · by_cases e : j = k
    · rw [e]; exact hc
    · rw [hit_ne (by omega) (by omega)]; exact hB j hj
  · obtain ⟨b, hb, h1, h2⟩ := hf dk hdk he
    exact ⟨b, by omega, by rw [hit_ne (by omega) (by omega)]; exact h1, h2⟩
theorem shR_b (hw : 0 < w) (hw6 : w ≤ 6) (hd : due = -1 ∨ ∃ k, k < w ∧ due = nI k) (hst : ∀ k, k < w → 0 < st k) (hn : n < 1000) (h : shR T st pb due q w f g n t F G) (hk : k = aimK due F w) (hc : ¬ 0 < hitF F k (dmI q (n + 1)) (12 + k)) : shR T st pb due q w f g (n + 1) (-1) (rBr T st pb (hitF F k (dmI q (n + 1))) k) (upd G k (G k + 1)) := by
  obtain ⟨e1, e2, -, hB, hf⟩ := h
  have hl : k < w := by rw [hk]; exact aim_lt hw hd hw6
  have eX : rSh T st pb due q w f g (n + 1) = (rBr T st pb (hitF F k (dmI q (n + 1))) k, upd G k (G k + 1), 1) := by
    show rHit T st pb due q w (n + 1) (rSh T st pb due q w f g n) = _
    unfold rHit
    rw [← e1, ← e2, ← hk, if_neg hc]
  have hz : ∀ z, 12 ≤ z → z < 24 → z ≠ 12 + k → z ≠ 18 + k → rBr T st pb (hitF F k (dmI q (n + 1))) k z = F z := by
    intro z h1 h2 h3 h4
    unfold rBr frF
    rw [mvF_n _ _ _ _ _ (by omega) (by omega), upd_n (by omega), upd_n (by omega), upd_n h4, upd_n h3, hit_ne (by omega) h3]
  unfold shR
  rw [eX]
  refine ⟨rfl, rfl, Or.inl rfl, fun j hj => ?_, fun dk hdk he => ?_⟩
  · by_cases e : j = k
    · rw [e]
      unfold rBr frF
      rw [mvF_n _ _ _ _ _ (by omega) (by omega), upd_n (by omega), upd_n (by omega), upd_n (by omega), upd_s]
      exact hst k hl
    · rw [hz _ (by omega) (by omega) (by omega) (by omega)]; exact hB j hj
  · obtain ⟨b, hb, h1, h2⟩ := hf dk hdk he
    have ek : k = dk := by
      rw [hk]
      unfold aimK
      rw [he, if_neg (nI_nm1 (by omega)), nI_clamp (by omega)]
    subst ek
    refine ⟨b + 1, by omega, ?_, by rw [if_neg (by omega)]⟩
    unfold rBr frF
    rw [mvF_n _ _ _ _ _ (by omega) (by omega), upd_n (by omega), upd_n (by omega), upd_s, upd_n (by omega), hit_ne (by omega) (by omega), h1, nI_succ, Int32.add_assoc]
theorem miss_0 (F : Nat → Int32) : upd F 7 (F 7 + 0) = F := by
  rw [i32_0a]; exact upd_id F 7
/-- the corks are shot: what is missed -/
theorem shR_e0 (hd : due = -1) (h : shR T st pb due q w f g n t F G) : F = upd (rSh T st pb due q w f g n).1 7 ((rSh T st pb due q w f g n).1 7 + rMiss due (rSh T st pb due q w f g n).2.2) := by
  unfold rMiss
  rw [if_pos hd, ← h.1]
  exact (miss_0 F).symm
theorem shR_e1 {dk : Nat} (hdk : dk < 6) (hd : due = nI dk) (hn : n < 1000) (h : shR T st pb due q w f g n t F G) (he : F (18 + dk) = f (18 + dk)) : upd F 7 (F 7 + 1) = upd (rSh T st pb due q w f g n).1 7 ((rSh T st pb due q w f g n).1 7 + rMiss due (rSh T st pb due q w f g n).2.2) := by
  obtain ⟨b, hb, h1, h2⟩ := h.2.2.2.2 dk hdk hd
  have hb0 : b = 0 := by
    rw [he] at h1
    have hz : nI b = 0 := by
      have := congrArg (fun z => z - f (18 + dk)) h1
      rw [Int32.sub_self, Int32.add_comm, Int32.add_sub_cancel] at this
      exact this.symm
    exact (nI_eq (a := b) (b := 0) (by omega) (by decide)).mp hz
  rw [← h.1, h2, hb0]
  unfold rMiss
  rw [hd, if_neg (nI_nm1 (by omega)), if_pos rfl, if_pos rfl]
theorem shR_e2 {dk : Nat} (hdk : dk < 6) (hd : due = nI dk) (h : shR T st pb due q w f g n t F G) (he : ¬ F (18 + dk) = f (18 + dk)) : F = upd (rSh T st pb due q w f g n).1 7 ((rSh T st pb due q w f g n).1 7 + rMiss due (rSh T st pb due q w f g n).2.2) := by
  obtain ⟨b, hb, h1, h2⟩ := h.2.2.2.2 dk hdk hd
  have hb0 : ¬ b = 0 := fun e => he (by rw [h1, e]; exact i32_a0 _)
  rw [← h.1, h2, if_neg hb0]
  unfold rMiss
  rw [hd, if_neg (nI_nm1 (by omega)), if_neg (by decide)]
  exact (miss_0 F).symm
end SHR
/-- the places that a month of the class and one of the reference share -/
def nP (i : Nat) : Prop := i < 24 ∧ i ≠ 11
theorem nP_in : inP nP := fun _ h1 h2 => ⟨h1, h2⟩
section MOC
variable {sd fn st me f F Z g C : Nat → Int32} {due : Int32} {q ck w q5 it mm : Nat}
theorem fa_eq (hq : q ≤ 9) : faF fn (nI q) = fn q := by
  unfold faF
  rw [if_neg (show ¬ he_within (nI q) 0 9 = 0 from nI_inB (B := 9) (by decide) hq), nI_clamp (by omega)]
/-- behind the corks, or behind the unpaid contract -/
theorem und_p (hp : payF C (nI mm) ≤ f 0) (e : F = upd (rSh (tOf sd fn) st (C 4) due q w (mvF f 0 1 (payF C (nI mm))) g (nSh w ck)).1 7 ((rSh (tOf sd fn) st (C 4) due q w (mvF f 0 1 (payF C (nI mm))) g (nSh w ck)).1 7 + rMiss due (rSh (tOf sd fn) st (C 4) due q w (mvF f 0 1 (payF C (nI mm))) g (nSh w ck)).2.2)) : frF F (fn q) = rUnd (tOf sd fn) st (cOf C) due q ck w (nI mm) f g := by
  unfold rUnd rShF
  rw [payF_eq] at hp e
  rw [if_neg (Int32.not_lt.mpr hp), tOf_15, e]
  rfl
theorem und_pG (hp : payF C (nI mm) ≤ f 0) : rUndG (tOf sd fn) st (cOf C) due q ck w (nI mm) f g = (rSh (tOf sd fn) st (C 4) due q w (mvF f 0 1 (payF C (nI mm))) g (nSh w ck)).2.1 := by
  unfold rUndG
  rw [payF_eq] at hp ⊢
  rw [if_neg (Int32.not_lt.mpr hp)]
  rfl
theorem und_d (hp : ¬ payF C (nI mm) ≤ f 0) : eqP nP (dfF f) (rUnd (tOf sd fn) st (cOf C) due q ck w (nI mm) f g) ∧ rUndG (tOf sd fn) st (cOf C) due q ck w (nI mm) f g = g := by
  rw [payF_eq] at hp
  have hp := Int32.not_le.mp hp
  refine ⟨fun i hi => ?_, ?_⟩
  · unfold rUnd dfF
    rw [if_pos hp, sgFx hi.2]
  · unfold rUndG
    rw [if_pos hp]
theorem und_11 (hd : due = -1 ∨ ∃ k, k < w ∧ due = nI k) (hw6 : w ≤ 6) {p pb d : Int32} {T : Nat → Int32} (e : F = upd (rSh T st pb due q w (mvF f 0 1 p) g (nSh w ck)).1 7 ((rSh T st pb due q w (mvF f 0 1 p) g (nSh w ck)).1 7 + rMiss due (rSh T st pb due q w (mvF f 0 1 p) g (nSh w ck)).2.2)) : frF F d 11 = f 11 := by
  rw [e]
  unfold frF
  rw [upd_n (by decide), upd_n (by decide), (k_shN hd hw6).2.1, mvF_n _ _ _ _ _ (by decide) (by decide)]
theorem ps_n {me : Nat → Int32} {k : Nat} (h : 6 ≤ k) (h2 : k < 12) : psT sd st me w F k = F k := by
  unfold psT psD psC psB psA
  rw [dsF_n _ _ _ (by omega) (by omega), mvF_n _ _ _ _ _ (by omega) (by omega), mvF_n _ _ _ _ _ (by omega) (by omega), mendF_n _ _ _ _ _ (by omega) (by omega) h2, upd_n (by omega)]
theorem bd_pay (h : bdC (cOf C)) (mo : Int32) : ∃ x, x < 2147483648 ∧ payF C mo = nI x := by
  obtain ⟨⟨a, ha, ea⟩, ⟨b, hb, eb⟩, -⟩ := h
  rw [payF_eq]
  unfold payR
  rw [ea, eb]
  split
  · exact ⟨b, by omega, rfl⟩
  · split
    · exact ⟨b, by omega, rfl⟩
    · exact ⟨a, by omega, rfl⟩
theorem bd_pos (h : bdF w st f) : ∀ k, k < w → 0 < f (12 + k) := fun k hk => by
  obtain ⟨v, s, h1, h2, h3, e, -⟩ := h.2.2.2 k hk
  rw [e]
  exact (nI_ltI (a := 0) (b := v) (by decide) (by omega)).mpr h1
theorem bd_st (h : bdF w st f) : ∀ k, k < w → 0 < st k := fun k hk => by
  obtain ⟨v, s, h1, h2, h3, -, e⟩ := h.2.2.2 k hk
  rw [e]
  exact (nI_ltI (a := 0) (b := s) (by decide) (by omega)).mpr (by omega)
/-- the month's end -/
theorem end_p (hiq : it + 1 = q5) (h : eqP nP F Z) : eqP nP (upd F 10 (-1)) (rEnd q5 it mm Z) := by
  intro i hi
  unfold rEnd
  by_cases e : Z 10 = -1
  · rw [if_pos e, upd_n (show i ≠ 24 by have := hi.1; omega)]
    by_cases e2 : i = 10
    · rw [e2, upd_s, e]
    · rw [upd_n e2]; exact h i hi
  · rw [if_neg e, if_pos hiq, sgFx hi.2]
    by_cases e2 : i = 10
    · rw [e2, upd_s, upd_s]
    · rw [upd_n e2, upd_n e2, upd_n hi.2, upd_n (show i ≠ 24 by have := hi.1; omega)]; exact h i hi
theorem end_n (hiq : it + 1 < q5) (h : eqP nP F Z) : eqP nP F (rEnd q5 it mm Z) := by
  intro i hi
  unfold rEnd
  split
  · rw [upd_n (show i ≠ 24 by have := hi.1; omega)]; exact h i hi
  · rw [if_neg (by omega), upd_n hi.2, upd_n (show i ≠ 24 by have := hi.1; omega)]; exact h i hi
end MOC
