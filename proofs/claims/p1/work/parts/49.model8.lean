theorem eqB_mst {f g : Nat → Int32} (h : eqB f g) : eqB (mst f) (mst g) := by
  have h1 : eqB (mA f) (mA g) := eqB_mv h 2 0 (by decide) (by decide) (by rw [h 3 (by decide) (by decide), h 5 (by decide) (by decide)])
  have h2 : eqB (mB (mA f)) (mB (mA g)) := eqB_upd h1 5 (by rw [h1 5 (by decide) (by decide)])
  have h3 : eqB (mC (mB (mA f))) (mC (mB (mA g))) := eqB_mv h2 0 2 (by decide) (by decide) (by rw [h2 3 (by decide) (by decide)])
  have h4 : eqB (mD (mC (mB (mA f)))) (mD (mC (mB (mA g)))) := eqB_mv h3 1 2 (by decide) (by decide) (by rw [h3 4 (by decide) (by decide)])
  have e3 := h4 3 (by decide) (by decide)
  have h5 : eqB (upd (mD (mC (mB (mA f)))) 3 (mD (mC (mB (mA f))) 3 - mD (mC (mB (mA f))) 3 * 2 / 100)) (upd (mD (mC (mB (mA g)))) 3 (mD (mC (mB (mA g))) 3 - mD (mC (mB (mA g))) 3 * 2 / 100)) := eqB_upd h4 3 (by rw [e3])
  have h6 : eqB (mE (mD (mC (mB (mA f))))) (mE (mD (mC (mB (mA g))))) := eqB_upd h5 4 (by rw [h5 4 (by decide) (by decide), e3])
  show eqB (mG (mE (mD (mC (mB (mA f)))))) (mG (mE (mD (mC (mB (mA g))))))
  unfold mG
  exact eqB_upd h6 24 (by rw [h6 24 (by decide) (by decide)])
theorem eqB_mit {f g : Nat → Int32} (h : eqB f g) : ∀ n, eqB (mit f n) (mit g n)
  | 0 => h
  | n + 1 => eqB_mst (eqB_mit h n)
theorem mit_add (f : Nat → Int32) (a : Nat) : ∀ b, mit (mit f a) b = mit f (a + b)
  | 0 => rfl
  | b + 1 => by rw [mit, mit_add f a b]; rfl
theorem eqB_sg (f : Nat → Int32) (c : Int32) : eqB (sgF f c) f := by
  intro k h1 h2
  unfold sgF
  rw [upd_n h2, upd_n h1]
theorem stopM (f : Nat → Int32) (c c2 : Int32) (j n : Nat) (h : j ≤ n) : mit (sgF (mit f j) c) (n - j) 0 = mit (sgF f c2) n 0 := by
  rw [eqB_mit (eqB_sg _ c) (n - j) 0 (by decide) (by decide), mit_add, show j + (n - j) = n by omega, eqB_mit (eqB_sg f c2) n 0 (by decide) (by decide)]
theorem mst_h (f : Nat → Int32) (k : Nat) (hk : 25 ≤ k) : mst f k = f k := by
  unfold mst mG mE mD mC mB mA
  rw [upd_n (by omega), upd_n (by omega), upd_n (by omega), mvF_n _ _ _ _ _ (by omega) (by omega), mvF_n _ _ _ _ _ (by omega) (by omega), upd_n (by omega), mvF_n _ _ _ _ _ (by omega) (by omega)]
theorem mit_h (f : Nat → Int32) (k : Nat) (hk : 25 ≤ k) : ∀ n, mit f n k = f k
  | 0 => rfl
  | n + 1 => by rw [mit, mst_h _ _ hk, mit_h f k hk n]
theorem sgF_h (f : Nat → Int32) (c : Int32) (k : Nat) (hk : 25 ≤ k) : sgF f c k = f k := by unfold sgF; rw [upd_n (by omega), upd_n (by omega)]
theorem tkF (f g X : Nat → Int32) (h : ∀ k, 25 ≤ k → X k = f k) : flF (flF f g 25) X 25 = f := by
  funext k
  unfold flF
  by_cases hk : k < 25
  · simp [hk]
  · simp only [if_neg hk]; exact h k (by omega)
