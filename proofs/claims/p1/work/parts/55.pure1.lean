/-! class and reference agree, on the numbers of a fresh siege -/
def pSD : Nat → Int32 := flF unF (fun _ => 0) 24
def pF0 : Nat → Int32 := beginF (flF unF (fun _ => 0) 24) (fun _ => 0) 0 (fun _ => 0)
def pTO : Nat → Int32 := flF (tnF (fun _ => 0)) (fun _ => 0) 25
def pSM : Nat → Int32 := sbF (tnF (fun _ => 0)) (fun _ => 0)
theorem pu_wants (x k : Int32) : wantF (flF unF (fun _ => 0) 24) x k = mwF (flF (tnF (fun _ => 0)) (fun _ => 0) 25) x k := by
  have h1 : flF unF (fun _ => 0) 24 21 = 5 := by decide
  have h2 : flF unF (fun _ => 0) 24 22 = 1 := by decide
  have h3 : flF (tnF (fun _ => 0)) (fun _ => 0) 25 13 = 5 := by decide
  have h4 : flF (tnF (fun _ => 0)) (fun _ => 0) 25 14 = 1 := by decide
  unfold wantF mwF
  rw [h1, h2, h3, h4]
  grind
theorem pu_sums {x : Int32} (h : ¬ he_within x 0 9 = 0) : beginF (flF unF (fun _ => 0) 24) (fun _ => 0) 0 (fun _ => 0) x.toNatClampNeg = sbF (tnF (fun _ => 0)) (fun _ => 0) x.toNatClampNeg := by
  obtain ⟨-, h2⟩ := he_within_nat (B := 9) rfl (by decide) h
  have h3 : ∀ k, k ≤ 9 → beginF (flF unF (fun _ => 0) 24) (fun _ => 0) 0 (fun _ => 0) k = sbF (tnF (fun _ => 0)) (fun _ => 0) k := by decide
  exact h3 _ h2
theorem pu_near (a k : Int32) : nearF (flF unF (fun _ => 0) 24) a k 10 0 = mnearF (flF (tnF (fun _ => 0)) (fun _ => 0) 25) a k 10 0 := by
  have h : ∀ n x, nearF (flF unF (fun _ => 0) 24) a k n x = mnearF (flF (tnF (fun _ => 0)) (fun _ => 0) 25) a k n x := by
    intro n
    induction n with
    | zero => intro x; rfl
    | succ n ih => intro x; rw [nearF, mnearF, pu_wants, ih]
  exact h 10 0
/-- the same numbers in the first six places, the fear between 0 and 100 -/
def pE (f h : Nat → Int32) : Prop := ∀ k, k < 6 → f k = h k
def pF (f : Nat → Int32) : Prop := ∃ j : Nat, j ≤ 100 ∧ f 5 = nI j
theorem pE_upd {f h : Nat → Int32} (e : pE f h) (i : Nat) {v v' : Int32} (hv : v = v') : pE (upd f i v) (upd h i v') := by
  intro k hk
  unfold upd
  split
  · exact hv
  · exact e k hk
theorem pE_upr {f h : Nat → Int32} (e : pE f h) (i : Nat) (v : Int32) (hi : 6 ≤ i) : pE f (upd h i v) := by
  intro k hk
  rw [upd_n (by omega)]
  exact e k hk
theorem pE_upl {f h : Nat → Int32} (e : pE f h) (i : Nat) (v : Int32) (hi : 6 ≤ i) : pE (upd f i v) h := by
  intro k hk
  rw [upd_n (by omega)]
  exact e k hk
theorem pE_mv {f h : Nat → Int32} (e : pE f h) (i j : Nat) (hi : i < 6) (hj : j < 6) {d d' : Int32} (hd : d = d') : pE (mvF f i j d) (mvF h i j d') := by
  subst hd
  have e1 := pE_upd e i (v := f i - (if f i < d then f i else d)) (v' := h i - (if h i < d then h i else d)) (by rw [e i hi])
  have e2 := e1 j hj
  unfold mvF
  exact pE_upd e1 j (by rw [e2, e i hi])
theorem pF_mv {f : Nat → Int32} (h : pF f) (i j : Nat) (d : Int32) (hi : 5 ≠ i) (hj : 5 ≠ j) : pF (mvF f i j d) := by
  obtain ⟨k, h1, h2⟩ := h
  exact ⟨k, h1, by rw [mvF_n _ _ _ _ _ hi hj]; exact h2⟩
theorem p_sd : flF unF (fun _ => 0) 24 10 = 20 ∧ flF unF (fun _ => 0) 24 14 = 5 ∧ flF unF (fun _ => 0) 24 5 = 3 ∧ flF unF (fun _ => 0) 24 8 = 5 := by decide
theorem p_fear : ∀ j : Nat, j ≤ 100 → (if (0 : Int32) < nI j - 5 then nI j - 5 else 0) = (if nI j < 5 then 0 else nI j - 5) ∧ ∃ i : Nat, i ≤ 100 ∧ (if nI j < 5 then 0 else nI j - 5) = nI i := by
  intro j hj
  have h : ∀ j : Nat, j ≤ 100 → (if (0 : Int32) < nI j - 5 then nI j - 5 else 0) = (if nI j < 5 then 0 else nI j - 5) ∧ (if nI j < 5 then 0 else nI j - 5) = nI (j - 5) := by decide +kernel
  exact ⟨(h j hj).1, j - 5, by omega, (h j hj).2⟩
theorem pE_psA {f h : Nat → Int32} (e : pE f h) (hf : pF f) : pE (psA (flF unF (fun _ => 0) 24) f) (mB h) ∧ pF (psA (flF unF (fun _ => 0) 24) f) := by
  obtain ⟨j, hj, h5⟩ := hf
  obtain ⟨h1, i, hi, h2⟩ := p_fear j hj
  have e5 := e 5 (by decide)
  unfold psA mB
  rw [p_sd.2.1, h5]
  refine ⟨pE_upd e 5 (by rw [← e5, h5]; exact h1), i, hi, ?_⟩
  rw [upd_s, h1, h2]
theorem pE_psT {f h : Nat → Int32} (e : pE f h) (hf : pF f) (st me : Nat → Int32) : pE (psT (flF unF (fun _ => 0) 24) st me 0 f) (mG (mE (mD (mC (mB h))))) ∧ pF (psT (flF unF (fun _ => 0) 24) st me 0 f) := by
  obtain ⟨e1, f1⟩ := pE_psA e hf
  have e2 : pE (psB (flF unF (fun _ => 0) 24) (psA (flF unF (fun _ => 0) 24) f)) (mC (mB h)) := by
    unfold psB mC
    exact pE_mv e1 0 2 (by decide) (by decide) (by rw [p_sd.2.2.1, e1 3 (by decide), Int32.mul_comm])
  have f2 : pF (psB (flF unF (fun _ => 0) 24) (psA (flF unF (fun _ => 0) 24) f)) := pF_mv f1 _ _ _ (by decide) (by decide)
  have e3 : pE (psC (flF unF (fun _ => 0) 24) (psB (flF unF (fun _ => 0) 24) (psA (flF unF (fun _ => 0) 24) f))) (mD (mC (mB h))) := by
    unfold psC mD
    exact pE_mv e2 1 2 (by decide) (by decide) (by rw [p_sd.2.2.2, e2 4 (by decide), Int32.mul_comm])
  have f3 : pF (psC (flF unF (fun _ => 0) 24) (psB (flF unF (fun _ => 0) 24) (psA (flF unF (fun _ => 0) 24) f))) := pF_mv f2 _ _ _ (by decide) (by decide)
  have e4 : psT (flF unF (fun _ => 0) 24) st me 0 f = mE (psC (flF unF (fun _ => 0) 24) (psB (flF unF (fun _ => 0) 24) (psA (flF unF (fun _ => 0) 24) f))) := by
    show psD _ _ = _
    unfold psD dsF
    rw [p_sd.2.2.1, p_sd.2.2.2, if_neg (by decide)]
    unfold mnF mE
    rw [show (if (0 : Int32) ≤ 5 - 3 then (5 - 3 : Int32) else 0 - (5 - 3)) = 2 by decide]
    rfl
  rw [e4]
  have e3' := e3 3 (by decide)
  have e5 : pE (upd (psC (flF unF (fun _ => 0) 24) (psB (flF unF (fun _ => 0) 24) (psA (flF unF (fun _ => 0) 24) f))) 3 (psC (flF unF (fun _ => 0) 24) (psB (flF unF (fun _ => 0) 24) (psA (flF unF (fun _ => 0) 24) f)) 3 - psC (flF unF (fun _ => 0) 24) (psB (flF unF (fun _ => 0) 24) (psA (flF unF (fun _ => 0) 24) f)) 3 * 2 / 100)) (upd (mD (mC (mB h))) 3 (mD (mC (mB h)) 3 - mD (mC (mB h)) 3 * 2 / 100)) := pE_upd e3 3 (by rw [e3'])
  constructor
  · unfold mG
    refine pE_upr ?_ _ _ (by decide)
    unfold mE
    exact pE_upd e5 4 (by rw [e5 4 (by decide), e3'])
  · obtain ⟨j, hj, h5⟩ := f3
    exact ⟨j, hj, by unfold mE; rw [upd_n (by decide), upd_n (by decide)]; exact h5⟩
theorem pE_tax {f h : Nat → Int32} (e : pE f h) (hf : pF f) : pE (taxF (flF unF (fun _ => 0) 24) f) (mA h) ∧ pF (taxF (flF unF (fun _ => 0) 24) f) := by
  unfold taxF mA
  exact ⟨pE_mv e 2 0 (by decide) (by decide) (by rw [p_sd.1, e 3 (by decide), e 5 (by decide)]), pF_mv hf _ _ _ (by decide) (by decide)⟩
theorem pE_st {f h : Nat → Int32} (e : pE f h) (hf : pF f) (st me : Nat → Int32) : pE (stpF (flF unF (fun _ => 0) 24) st me 0 f) (mst h) ∧ pF (stpF (flF unF (fun _ => 0) 24) st me 0 f) := by
  obtain ⟨e1, f1⟩ := pE_tax e hf
  exact pE_psT e1 f1 st me
theorem pE_it {f h : Nat → Int32} (e : pE f h) (hf : pF f) (st me : Nat → Int32) : ∀ n, pE (itF (flF unF (fun _ => 0) 24) st me 0 f n) (mit h n) ∧ pF (itF (flF unF (fun _ => 0) 24) st me 0 f n)
  | 0 => ⟨e, hf⟩
  | n + 1 => by
    obtain ⟨e1, f1⟩ := pE_it e hf st me n
    exact pE_st e1 f1 st me
theorem pu_start : pE (fcF (va_cpy (beginF (flF unF (fun _ => 0) 24) (fun _ => 0) 0 (fun _ => 0)) (fun _ => 0) 0 0 24) (-1) 0) (sgF (sbF (tnF (fun _ => 0)) (fun _ => 0)) (-1)) ∧ pF (fcF (va_cpy (beginF (flF unF (fun _ => 0) 24) (fun _ => 0) 0 (fun _ => 0)) (fun _ => 0) 0 0 24) (-1) 0) := by
  refine ⟨?_, 20, by decide, by decide⟩
  show ∀ k, k < 6 → _
  decide
theorem pu_it (n k : Nat) (hk : k ≤ 9) : itF (flF unF (fun _ => 0) 24) (fun _ => 0) (fun _ => 0) 0 (fcF (va_cpy (beginF (flF unF (fun _ => 0) 24) (fun _ => 0) 0 (fun _ => 0)) (fun _ => 0) 0 0 24) (-1) 0) n k = mit (sgF (sbF (tnF (fun _ => 0)) (fun _ => 0)) (-1)) n k := by
  by_cases h : k < 6
  · exact (pE_it pu_start.1 pu_start.2 _ _ n).1 k h
  · rw [itF_n _ _ _ _ _ _ (by omega) (by omega), mit_n _ _ (by omega) (by omega)]
    have h9 : ∀ k, k ≤ 9 → fcF (va_cpy (beginF (flF unF (fun _ => 0) 24) (fun _ => 0) 0 (fun _ => 0)) (fun _ => 0) 0 0 24) (-1) 0 k = sgF (sbF (tnF (fun _ => 0)) (fun _ => 0)) (-1) k := by decide
    exact h9 k hk
theorem pu_would (n k : Nat) (hn : n ≤ 60) (hk : k ≤ 9) : itF (flF unF (fun _ => 0) 24) (fun _ => 0) (fun _ => 0) 0 (fcF (va_cpy (beginF (flF unF (fun _ => 0) 24) (fun _ => 0) 0 (fun _ => 0)) (fun _ => 0) 0 0 24) (-1) 0) n (nI k).toNatClampNeg = mit (sgF (sbF (tnF (fun _ => 0)) (fun _ => 0)) (-1)) n k := by
  rw [nI_clamp (by omega)]
  exact pu_it n k hk
/-- the six numbers as a row, so that the months may be counted out -/
def pT (t : Int32 × Int32 × Int32 × Int32 × Int32 × Int32) : Int32 × Int32 × Int32 × Int32 × Int32 × Int32 :=
  let d1 := t.2.2.2.1 * 20 * t.2.2.2.2.2 / 10000
  let x1 := if t.2.2.1 < d1 then t.2.2.1 else d1
  let a2 := t.2.2.1 - x1
  let a0 := t.1 + x1
  let a5 := if t.2.2.2.2.2 < 5 then 0 else t.2.2.2.2.2 - 5
  let d2 := t.2.2.2.1 / 10 * 3
  let x2 := if a0 < d2 then a0 else d2
  let b0 := a0 - x2
  let b2 := a2 + x2
  let d3 := t.2.2.2.2.1 / 10 * 5
  let x3 := if t.2.1 < d3 then t.2.1 else d3
  (b0, t.2.1 - x3, b2 + x3, t.2.2.2.1 - t.2.2.2.1 * 2 / 100, t.2.2.2.2.1 + t.2.2.2.1 * 2 / 100, a5)
def pR (f : Nat → Int32) : Int32 × Int32 × Int32 × Int32 × Int32 × Int32 := (f 0, f 1, f 2, f 3, f 4, f 5)
theorem pR_st (f : Nat → Int32) : pR (mst f) = pT (pR f) := by
  unfold pR pT mst mG mE mD mC mB mA mvF
  simp [upd]
def pI (t : Int32 × Int32 × Int32 × Int32 × Int32 × Int32) : Nat → Int32 × Int32 × Int32 × Int32 × Int32 × Int32
  | 0 => t
  | n + 1 => pT (pI t n)
theorem pR_it (f : Nat → Int32) : ∀ n, pR (mit f n) = pI (pR f) n
  | 0 => rfl
  | n + 1 => by rw [mit, pR_st, pR_it f n]; rfl
theorem pu_pos0 : ∀ n : Nat, n ≤ 60 → ¬ (pI (1000, 0, 5000, 100, 100, 20) n).1 ≤ -1 := by decide +kernel
theorem pu_r0 : pR (sgF (sbF (tnF (fun _ => 0)) (fun _ => 0)) (-1)) = (1000, 0, 5000, 100, 100, 20) := by decide
theorem pu_pos (n : Nat) (hn : n ≤ 60) : ¬ mit (sgF (sbF (tnF (fun _ => 0)) (fun _ => 0)) (-1)) n 0 ≤ -1 := by
  have h := pu_pos0 n hn
  rw [← pu_r0, ← pR_it] at h
  exact h
theorem pu_posC (n : Nat) (hn : n ≤ 60) : ¬ itF (flF unF (fun _ => 0) 24) (fun _ => 0) (fun _ => 0) 0 (fcF (va_cpy (beginF (flF unF (fun _ => 0) 24) (fun _ => 0) 0 (fun _ => 0)) (fun _ => 0) 0 0 24) (-1) 0) n 0 ≤ -1 := by
  rw [pu_it n 0 (by decide)]
  exact pu_pos n hn
theorem pu_best (n : Nat) (hn : n ≤ 60) : bestM (itF (flF unF (fun _ => 0) 24) (fun _ => 0) (fun _ => 0) 0 (fcF (va_cpy (beginF (flF unF (fun _ => 0) 24) (fun _ => 0) 0 (fun _ => 0)) (fun _ => 0) 0 0 24) (-1) 0) n 0) = mit (sgF (sbF (tnF (fun _ => 0)) (fun _ => 0)) (-1)) n 0 := by
  unfold bestM
  rw [if_neg (pu_posC n hn)]
  exact pu_it n 0 (by decide)
