/-! the law's one call: which of the scenarios it is -/
/-- the cells behind the three makings: the class's object, the reference's, the row of one long -/
def lw_cells (g : he_G) (x0 m0 o0 : Nat) (u v : Nat → Nat) (rr : Nat → Nat → Nat) (fo : Nat → Int64) : va_W := [(x0, .inr (9, [.ref (u 0), .int 0, .ref (u 1), .ref (u 4), .ref (u 9), .ref (u 14), .int 0, .ref (u 15), .ref (u 27), .int 0, .ref (u 28), .ref (u 31), .ref (u 35)])), ((u 0), .inl (g.2 0, 500, .inl (fun _ => 0))), ((u 1), .inr (7, [.ref (u 3), .int 0, .int 0, .int 0, .int (-1), .ref (u 2)])), ((u 3), .inl (g.2 0, 0, .inl (fun _ => 0))), ((u 2), .inl (g.2 1, 3, .inl (fun _ => 0))), ((u 4), .inr (6, [.ref (u 5), .ref (u 6), .ref (u 7), .ref (u 8), .int 0])), ((u 5), .inl (g.2 1, 24, .inl (flF unF (fun _ => 0) 24))), ((u 6), .inl (g.2 1, 10, .inl (flF nrF (fun _ => 0) 10))), ((u 7), .inl (g.2 1, 6, .inl (fun _ => 0))), ((u 8), .inl (g.2 1, 6, .inl (fun _ => 0))), ((u 9), .inr (6, [.ref (u 10), .ref (u 11), .ref (u 12), .ref (u 13), .int 0])), ((u 10), .inl (g.2 1, 24, .inl (flF unF (fun _ => 0) 24))), ((u 11), .inl (g.2 1, 10, .inl (flF nrF (fun _ => 0) 10))), ((u 12), .inl (g.2 1, 6, .inl (fun _ => 0))), ((u 13), .inl (g.2 1, 6, .inl (fun _ => 0))), ((u 14), .inl (g.2 2, 7, .inr (.inr (.inr (.inr  (va_up (va_up (va_up (va_up (va_up (va_up (va_up (fun _ => none) 0 (some (u 36))) 1 (some (u 39))) 2 (some (u 42))) 3 (some (u 45))) 4 (some (u 48))) 5 (some (u 51))) 6 (some (u 54)))))))), ((u 15), .inr (8, [.ref (u 16), .ref (u 19), .ref (u 21), .ref (u 24)])), ((u 16), .inr (4, [.ref (u 17), .ref (u 18), .int 0])), ((u 17), .inl (g.2 1, 24, .inl (beginF (flF unF (fun _ => 0) 24) (fun _ => 0) 0 (fun _ => 0)))), ((u 18), .inl (g.2 1, 6, .inl (fun _ => 0))), ((u 19), .inr (0, [.ref (u 20)])), ((u 20), .inl (g.2 1, 3600, .inl (fun _ => 0))), ((u 21), .inr (2, [.ref (u 22), .ref (u 23), .int 1, .int 1, .long 1, .long 1, .int 0])), ((u 22), .inl (g.2 1, 4, .inl (upd (upd (upd (upd (fun _ => 0) 0 8) 1 8) 2 8) 3 8))), ((u 23), .inl (g.2 1, 4, .inl (upd (upd (upd (upd (fun _ => 0) 0 8) 1 8) 2 8) 3 8))), ((u 24), .inr (3, [.ref (u 25), .ref (u 26)])), ((u 25), .inl (g.2 1, 36, .inl (fun _ => 0))), ((u 26), .inl (g.2 1, 39, .inl (fun _ => 0))), ((u 27), .inl (g.2 3, 3, .inr (.inr (.inr (.inr  (fun _ => none)))))), ((u 28), .inr (4, [.ref (u 29), .ref (u 30), .int 0])), ((u 29), .inl (g.2 1, 24, .inl (fun _ => 0))), ((u 30), .inl (g.2 1, 6, .inl (fun _ => 0))), ((u 31), .inr (1, [.ref (u 32), .ref (u 33), .ref (u 34), .int 0, .int 0])), ((u 32), .inl (g.2 1, 3, .inl (fun _ => 0))), ((u 33), .inl (g.2 1, 3, .inl (fun _ => 0))), ((u 34), .inl (g.2 1, 3, .inl (fun _ => 0))), ((u 35), .inl (g.2 1, 3, .inl (fun _ => 0))), ((u 36), .inr (5, [.ref (u 37), .ref (u 38), .int 0])), ((u 37), .inl (g.2 1, 6, .inl (fun _ => 0))), ((u 38), .inl (g.2 1, 36, .inl (fun _ => 0))), ((u 39), .inr (5, [.ref (u 40), .ref (u 41), .int 0])), ((u 40), .inl (g.2 1, 6, .inl (fun _ => 0))), ((u 41), .inl (g.2 1, 36, .inl (fun _ => 0))), ((u 42), .inr (5, [.ref (u 43), .ref (u 44), .int 0])), ((u 43), .inl (g.2 1, 6, .inl (fun _ => 0))), ((u 44), .inl (g.2 1, 36, .inl (fun _ => 0))), ((u 45), .inr (5, [.ref (u 46), .ref (u 47), .int 0])), ((u 46), .inl (g.2 1, 6, .inl (fun _ => 0))), ((u 47), .inl (g.2 1, 36, .inl (fun _ => 0))), ((u 48), .inr (5, [.ref (u 49), .ref (u 50), .int 0])), ((u 49), .inl (g.2 1, 6, .inl (fun _ => 0))), ((u 50), .inl (g.2 1, 36, .inl (fun _ => 0))), ((u 51), .inr (5, [.ref (u 52), .ref (u 53), .int 0])), ((u 52), .inl (g.2 1, 6, .inl (fun _ => 0))), ((u 53), .inl (g.2 1, 36, .inl (fun _ => 0))), ((u 54), .inr (5, [.ref (u 55), .ref (u 56), .int 0])), ((u 55), .inl (g.2 1, 6, .inl (fun _ => 0))), ((u 56), .inl (g.2 1, 36, .inl (fun _ => 0))), (m0, .inr (10, [.int 0, .int 0, .int 0, .int (-1), .int 0, .int 0, .int 0, .int 0, .ref (v 0), .ref (v 1), .ref (v 2), .ref (v 3), .ref (v 4), .ref (v 5), .int 0, .ref (v 6), .ref (v 7), .ref (v 8), .ref (v 9), .ref (v 10), .ref (v 11), .ref (v 12), .ref (v 13), .int 0, .int 1, .int 1, .int 0, .int 0, .int 0, .ref (v 14), .ref (v 15), .ref (v 16), .ref (v 17), .int 0, .ref (v 18)])), ((v 0), .inl (g.2 1, 500, .inl (fun _ => 0))), ((v 1), .inl (g.2 1, 3, .inl (fun _ => 0))), ((v 2), .inl (g.2 1, 25, .inl (tnF (fun _ => 0)))), ((v 3), .inl (g.2 1, 25, .inl (flF (tnF (fun _ => 0)) (fun _ => 0) 25))), ((v 6), .inl (g.2 1, 7, .inl (fun _ => 0))), ((v 7), .inl (g.2 1, 36, .inl (fun _ => 0))), ((v 10), .inl (g.2 1, 25, .inl (sbF (tnF (fun _ => 0)) (fun _ => 0)))), ((v 11), .inl (g.2 1, 25, .inl (fun _ => 0))), ((v 4), .inl (g.2 4, 6, .inr (.inr (.inr (.inr  (he_ro 6 (rr 1))))))), ((v 5), .inl (g.2 4, 6, .inr (.inr (.inr (.inr  (he_ro 6 (rr 2))))))), ((v 8), .inl (g.2 4, 7, .inr (.inr (.inr (.inr  (he_ro 7 (rr 3))))))), ((v 9), .inl (g.2 4, 7, .inr (.inr (.inr (.inr  (he_ro 7 (rr 4))))))), ((v 12), .inl (g.2 4, 121, .inr (.inr (.inr (.inr  (he_ro 121 (rr 5))))))), ((v 13), .inl (g.2 4, 120, .inr (.inr (.inr (.inr  (he_ro 120 (rr 6))))))), ((v 14), .inl (g.2 4, 4, .inr (.inr (.inr (.inr  (he_ro 4 (rr 7))))))), ((v 15), .inl (g.2 4, 12, .inr (.inr (.inr (.inr  (he_ro 12 (rr 8))))))), ((v 16), .inl (g.2 4, 2, .inr (.inr (.inr (.inr  (he_ro 2 (rr 9))))))), ((v 17), .inl (g.2 4, 3, .inr (.inr (.inr (.inr  (he_ro 3 (rr 10))))))), ((v 18), .inl (g.2 4, 13, .inr (.inr (.inr (.inr  (he_ro 13 (rr 11))))))), (o0, .inl (g.2 5, 1, .inr (.inl  fo)))]
def lw_F (rr : Nat → Nat → Nat) (L : List Nat) (ln : Nat → Nat) (M : Nat → Nat → Int32) : Prop := (∀ i, i < 6 → rr 1 i ∈ L ∧ ln (rr 1 i) = 2 ∧ True) ∧ (∀ i, i < 6 → rr 2 i ∈ L ∧ ln (rr 2 i) = 2 ∧ True) ∧ (∀ i, i < 7 → rr 3 i ∈ L ∧ ln (rr 3 i) = 7 ∧ True) ∧ (∀ i, i < 7 → rr 4 i ∈ L ∧ ln (rr 4 i) = 36 ∧ True) ∧ (∀ i, i < 121 → rr 5 i ∈ L ∧ ln (rr 5 i) = 25 ∧ True) ∧ (∀ i, i < 120 → rr 6 i ∈ L ∧ ln (rr 6 i) = 6 ∧ True) ∧ (∀ i, i < 4 → rr 7 i ∈ L ∧ ln (rr 7 i) = 2 ∧ True) ∧ (∀ i, i < 12 → rr 8 i ∈ L ∧ ln (rr 8 i) = 2 ∧ True) ∧ (∀ i, i < 2 → rr 9 i ∈ L ∧ ln (rr 9 i) = 12 ∧ True) ∧ (∀ i, i < 3 → rr 10 i ∈ L ∧ ln (rr 10 i) = 3850 ∧ True) ∧ (∀ i, i < 13 → rr 11 i ∈ L ∧ ln (rr 11 i) = 3 ∧ True) ∧ (∀ i, i < 2 → M (rr 9 i) = fun _ => 0) ∧ (∀ i, i < 13 → M (rr 11 i) = fun _ => 0) ∧ (∀ i j, i < 7 → j < 7 → rr 3 i ≠ rr 4 j)
theorem wi_nat {x a b : Int32} {A B : Nat} (ha : a = nI A) (hb : b = nI B) (hA : A < 2147483648) (hB : B < 2147483648) (h : ¬ he_within x a b = 0) : ∃ n : Nat, x = nI n ∧ A ≤ n ∧ n ≤ B := by
  have h1 : ¬ x < a := by
    intro h9
    apply h
    unfold he_within
    rw [if_pos h9]
  have h2 : ¬ b < x := by
    intro h9
    apply h
    unfold he_within
    rw [if_neg h1, if_pos h9]
  have h0 : ¬ x < 0 := fun h9 => h1 (Int32.lt_of_lt_of_le h9 (by rw [ha]; exact nI_pos' hA))
  have h3 : ¬ he_within x 0 b = 0 := by
    unfold he_within
    rw [if_neg h0, if_neg h2]
    decide
  obtain ⟨e1, e2⟩ := he_within_nat hb hB h3
  obtain ⟨k, hk, hkB⟩ : ∃ k : Nat, x = nI k ∧ k ≤ B := ⟨_, e1, e2⟩
  subst hk
  exact ⟨k, rfl, (nI_leI hA (by omega)).mp (by rw [← ha]; exact Int32.not_lt.mp h1), hkB⟩
theorem wi_00 {x : Int32} (h : ¬ x = 0) : he_within x 0 0 = 0 := by
  unfold he_within
  by_cases h1 : x < 0
  · rw [if_pos h1]
  · rw [if_neg h1]
    by_cases h2 : 0 < x
    · rw [if_pos h2]
    · exact absurd (he_zero h1 h2) h
theorem cnt_out {x : Int32} (h0 : ¬ x = 0) (h1 : ¬ x = 1) (h2 : ¬ x = 2) : x.toInt < 0 ∨ 2 < x.toInt := by
  rw [← Int32.toInt_inj] at h0 h1 h2
  have e0 : (0 : Int32).toInt = 0 := by decide
  have e1 : (1 : Int32).toInt = 1 := by decide
  have e2 : (2 : Int32).toInt = 2 := by decide
  rw [e0] at h0
  rw [e1] at h1
  rw [e2] at h2
  omega
theorem tb_int : ∀ k : Nat, k ≤ 32 → (nI k).toInt = k := by decide +kernel
theorem tb_out {x : Int32} (h : ∀ k : Nat, k ≤ 32 → ¬ x = nI k) : x.toInt < 0 ∨ 32 < x.toInt := by
  apply Decidable.byContradiction
  intro h9
  obtain ⟨k, hk⟩ : ∃ k : Nat, x.toInt = k := ⟨x.toInt.toNat, by omega⟩
  apply h k (by omega)
  rw [← Int32.toInt_inj, hk, tb_int k (by omega)]
