/-! offer(): class and reference agree -/
theorem tlF_n (pd f : Nat → Int32) (mo : Int32) (k : Nat) (h : k ≠ 10) : tlF pd f mo k = f k := by
  unfold tlF
  split
  · rfl
  · exact upd_n h
theorem pE_tl {f h : Nat → Int32} (e : pE f h) (pd : Nat → Int32) (mo : Int32) : pE (tlF pd f mo) h := by
  intro k hk
  rw [tlF_n _ _ _ _ (by omega)]
  exact e k hk
theorem pF_tl {f : Nat → Int32} (e : pF f) (pd : Nat → Int32) (mo : Int32) : pF (tlF pd f mo) := by
  obtain ⟨j, h1, h2⟩ := e
  exact ⟨j, h1, by rw [tlF_n _ _ _ _ (by decide)]; exact h2⟩
theorem pE_mpF {g h : Nat → Int32} {wt fe : Int32} (e : pE g (mpX h wt fe)) : pE g (mpF h wt fe) := by
  unfold mpF
  split
  · exact e
  · exact pE_upr e _ _ (by decide)
theorem p_fr : ∀ r : Nat, r ≤ 9 → faF (flF nrF (fun _ => 0) 10) (nI r) = nI (9 - r) ∧ flF (tnF (fun _ => 0)) (fun _ => 0) 25 (15 + r) = nI (9 - r) := by decide +kernel
theorem p_fear2 : ∀ j : Nat, j ≤ 100 → ∀ d : Nat, d ≤ 9 → (if nI j + nI d < 100 then nI j + nI d else 100) = nI (if j + d < 100 then j + d else 100) := by decide +kernel
theorem pF_fr {f : Nat → Int32} (h : pF f) (d : Nat) (hd : d ≤ 9) : pF (frF f (nI d)) := by
  obtain ⟨j, h1, h2⟩ := h
  refine ⟨if j + d < 100 then j + d else 100, by split <;> omega, ?_⟩
  unfold frF
  rw [upd_s, h2]
  exact p_fear2 j h1 d hd
theorem p_pay (a b d t mo : Int32) : payF (prP (fun _ => 0) a b d t) mo = a := by
  have h0 : prP (fun _ => 0) a b d t 0 = a := rfl
  have h1 : prP (fun _ => 0) a b d t 1 = -1 := rfl
  have hw : wpF (prP (fun _ => 0) a b d t) = a := by unfold wpF; rw [h1, if_pos rfl, h0]
  unfold payF
  rw [hw, h0]
  split
  · rfl
  · split <;> rfl
def pRel (n j : Nat) (f h : Nat → Int32) : Prop := pE f h ∧ pF f ∧ f 11 = 0 ∧ (j < n → (f 10 = -1 ∧ h 10 = -1) ∨ (f 10 = 6 ∧ h 10 = 6))
theorem pRel_step {f h st me : Nat → Int32} {n j r : Nat} {wt cc : Int32} (hr : r ≤ 9) (hn : n ≤ 60) (hj : j < n) (R : pRel n j f h) :
    pRel n (j + 1) (offS (flF unF (fun _ => 0) 24) (flF nrF (fun _ => 0) 10) st me (prP (fun _ => 0) wt (nI r) cc (nI n)) f (nI (0 + j))) (moS h wt (flF (tnF (fun _ => 0)) (fun _ => 0) 25 (15 + r))) := by
  obtain ⟨e, hf, h11, hs⟩ := R
  rcases hs hj with ⟨c1, m1⟩ | ⟨c6, m6⟩
  · rw [offS, if_pos c1, moS, if_pos m1]
    obtain ⟨e1, f1⟩ := pE_st (pE_upr e 11 (-1) (by decide)) hf st me
    refine ⟨e1, f1, ?_, fun _ => Or.inl ⟨?_, ?_⟩⟩
    · rw [stpF_n _ _ _ _ _ _ (by decide) (by decide)]; exact h11
    · rw [stpF_n _ _ _ _ _ _ (by decide) (by decide)]; exact c1
    · rw [mst_n _ _ (by decide) (by decide), upd_n (by decide)]; exact m1
  · have c6' : ¬ f 10 = -1 := by rw [c6]; decide
    have m6' : ¬ h 10 = -1 := by rw [m6]; decide
    rw [offS, if_neg c6', moS, if_neg m6']
    obtain ⟨hfa, hto⟩ := p_fr r hr
    rw [hto]
    have hpd2 : prP (fun _ => 0) wt (nI r) cc (nI n) 2 = nI r := rfl
    have hpd5 : prP (fun _ => 0) wt (nI r) cc (nI n) 5 = nI n := rfl
    obtain ⟨e1, f1⟩ := pE_tax (pE_upr e 11 0 (by decide)) hf
    have e10 := e1 0 (by decide)
    by_cases hp : wt ≤ taxF (flF unF (fun _ => 0) 24) f 0
    · have hq : wt ≤ mA (upd h 11 0) 0 := by rw [← e10]; exact hp
      rw [pasP, p_pay, if_pos hp, hpd2, hfa]
      have e2 : pE (frF (mvF (taxF (flF unF (fun _ => 0) 24) f) 0 1 wt) (nI (9 - r))) (ucF (mA (upd h 11 0)) wt (nI (9 - r))) := by
        rw [ucF, if_pos hq]
        have e3 := pE_upr (pE_mv e1 0 1 (by decide) (by decide) (rfl : wt = wt)) 7 (mvF (mA (upd h 11 0)) 0 1 wt 7 + 0) (by decide)
        unfold frF
        exact pE_upd e3 5 (by rw [e3 5 (by decide)])
      have f2 : pF (frF (mvF (taxF (flF unF (fun _ => 0) 24) f) 0 1 wt) (nI (9 - r))) := pF_fr (pF_mv f1 _ _ _ (by decide) (by decide)) _ (by omega)
      obtain ⟨e4, f4⟩ := pE_psT e2 f2 st me
      have k11 : psT (flF unF (fun _ => 0) 24) st me 0 (frF (mvF (taxF (flF unF (fun _ => 0) 24) f) 0 1 wt) (nI (9 - r))) 11 = 0 := by
        rw [psT_n _ _ _ _ _ _ (by decide) (by decide), frF, upd_n (by decide), mvF_n _ _ _ _ _ (by decide) (by decide), taxF_n _ _ _ (by decide)]; exact h11
      have k10 : psT (flF unF (fun _ => 0) 24) st me 0 (frF (mvF (taxF (flF unF (fun _ => 0) 24) f) 0 1 wt) (nI (9 - r))) 10 = 6 := by
        rw [psT_n _ _ _ _ _ _ (by decide) (by decide), frF, upd_n (by decide), mvF_n _ _ _ _ _ (by decide) (by decide), taxF_n _ _ _ (by decide)]; exact c6
      refine ⟨pE_mpF (pE_tl e4 _ _), pF_tl f4 _ _, ?_, fun hj2 => Or.inr ⟨?_, ?_⟩⟩
      · rw [tlF_n _ _ _ _ (by decide)]; exact k11
      · unfold tlF
        rw [if_pos, k10]
        rw [k11, hpd5, show nI (0 + j) + 1 - 0 = nI (0 + j + 1) by rw [nI_1]; exact Int32.sub_zero _]
        exact (nI_ltI (by omega) (by omega)).mpr (by omega)
      · have x10 : mpX (upd h 11 0) wt (nI (9 - r)) 10 = 6 := by
          unfold mpX
          rw [mG_n _ _ (by decide) (by decide), ucF_10, if_pos hq, mA_n _ 10 (by decide), upd_n (by decide)]; exact m6
        unfold mpF
        rw [if_neg (by rw [x10]; decide), upd_n (by decide)]; exact x10
    · have hq : ¬ wt ≤ mA (upd h 11 0) 0 := by rw [← e10]; exact hp
      rw [pasP, p_pay, if_neg hp]
      have e2 : pE (dfF (taxF (flF unF (fun _ => 0) 24) f)) (ucF (mA (upd h 11 0)) wt (nI (9 - r))) := by
        rw [ucF, if_neg hq]
        unfold dfF sgF
        exact pE_upr (pE_upr (pE_upr (pE_upl (pE_upl e1 _ _ (by decide)) _ _ (by decide)) _ _ (by decide)) _ _ (by decide)) _ _ (by decide)
      have f2 : pF (dfF (taxF (flF unF (fun _ => 0) 24) f)) := by
        obtain ⟨k, h1, h2⟩ := f1
        exact ⟨k, h1, by unfold dfF; rw [upd_n (by decide), upd_n (by decide)]; exact h2⟩
      obtain ⟨e4, f4⟩ := pE_psT e2 f2 st me
      have k10 : psT (flF unF (fun _ => 0) 24) st me 0 (dfF (taxF (flF unF (fun _ => 0) 24) f)) 10 = -1 := by
        rw [psT_n _ _ _ _ _ _ (by decide) (by decide), dfF, upd_s]
      refine ⟨pE_mpF (pE_tl e4 _ _), pF_tl f4 _ _, ?_, fun hj2 => Or.inl ⟨?_, ?_⟩⟩
      · rw [tlF_n _ _ _ _ (by decide), psT_n _ _ _ _ _ _ (by decide) (by decide), dfF, upd_n (by decide), upd_n (by decide), taxF_n _ _ _ (by decide)]; exact h11
      · rcases tlF_10 (prP (fun _ => 0) wt (nI r) cc (nI n)) (psT (flF unF (fun _ => 0) 24) st me 0 (dfF (taxF (flF unF (fun _ => 0) 24) f))) (nI (0 + j) + 1) with h9 | h9
        · exact h9
        · rw [h9]; exact k10
      · have x10 : mpX (upd h 11 0) wt (nI (9 - r)) 10 = -1 := by
          unfold mpX
          rw [mG_n _ _ (by decide) (by decide), ucF_10, if_neg hq]
        unfold mpF
        rw [if_pos x10]; exact x10
theorem pRel_it {f h st me : Nat → Int32} {n r : Nat} {wt cc : Int32} (hr : r ≤ 9) (hn : n ≤ 60) (R : pRel n 0 f h) : ∀ j, j ≤ n →
    pRel n j (offI (flF unF (fun _ => 0) 24) (flF nrF (fun _ => 0) 10) st me (prP (fun _ => 0) wt (nI r) cc (nI n)) f 0 j) (moI h wt (flF (tnF (fun _ => 0)) (fun _ => 0) 25 (15 + r)) j)
  | 0, _ => R
  | j + 1, hj => pRel_step hr hn (by omega) (pRel_it hr hn R j (by omega))
theorem pu_ofV (n r c : Nat) (hn1 : 1 ≤ n) (hn : n ≤ 60) (hr : r ≤ 9) : ofV (flF unF (fun _ => 0) 24) (flF nrF (fun _ => 0) 10) (fun _ => 0) (fun _ => 0) (va_cpy (beginF (flF unF (fun _ => 0) 24) (fun _ => 0) 0 (fun _ => 0)) (fun _ => 0) 0 0 24) n r c = moV (flF (tnF (fun _ => 0)) (fun _ => 0) 25) (sbF (tnF (fun _ => 0)) (fun _ => 0)) n r c := by
  unfold ofV moV
  rw [← pu_wants]
  refine (pRel_it hr hn ?_ n (Nat.le_refl _)).1 0 (by decide)
  refine ⟨?_, ⟨20, by decide, by decide⟩, by decide, fun _ => Or.inr ⟨by decide, by decide⟩⟩
  show ∀ k, k < 6 → _
  decide
theorem of_congC {V V' : Nat → Nat → Int32} {r : Nat} {t : Int32 × Int32 × Int32} (h : ∀ c, V r c = V' r c) : ∀ c, ofC V r t c = ofC V' r t c
  | 0 => rfl
  | c + 1 => by rw [ofC, ofC, of_congC h c, h c]
theorem of_congR {V V' : Nat → Nat → Int32} : ∀ R, (∀ r c, r < R → V r c = V' r c) → ofR V R = ofR V' R
  | 0, _ => rfl
  | R + 1, h => by rw [ofR, ofR, of_congR R (fun r c hr => h r c (by omega)), of_congC (fun c => h R c (by omega))]
theorem pu_of (n : Nat) (hn1 : 1 ≤ n) (hn : n ≤ 60) : ofR (ofV (flF unF (fun _ => 0) 24) (flF nrF (fun _ => 0) 10) (fun _ => 0) (fun _ => 0) (va_cpy (beginF (flF unF (fun _ => 0) 24) (fun _ => 0) 0 (fun _ => 0)) (fun _ => 0) 0 0 24) n) 10 = ofR (moV (flF (tnF (fun _ => 0)) (fun _ => 0) 25) (sbF (tnF (fun _ => 0)) (fun _ => 0)) n) 10 := of_congR 10 (fun r c hr => pu_ofV n r c hn1 hn (by omega))
