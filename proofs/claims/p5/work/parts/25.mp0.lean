/-- breaches told; what rule() answers -/
def cnF (B : Nat → Int32) : Nat → Nat
  | 0 => 0
  | m + 1 => cnF B m + (if B m = -1 then 0 else 1)
theorem cnF_le (B : Nat → Int32) : ∀ m, cnF B m ≤ m
  | 0 => Nat.le_refl 0
  | m + 1 => by
    have := cnF_le B m
    rw [cnF]
    split <;> omega
theorem cnF_e {B : Nat → Int32} {m : Nat} (h : B m = -1) : cnF B (m + 1) = cnF B m := by rw [cnF, if_pos h, Nat.add_zero]
theorem cnF_n {B : Nat → Int32} {m : Nat} (h : ¬ B m = -1) : cnF B (m + 1) = cnF B m + 1 := by rw [cnF, if_neg h]
def rlA (pd wb : Nat → Int32) (k : Nat) : Int32 := if k = 6 then nI (cnF wb 36) else if k = 1 then wpF pd else pd k
/-- the first nearness from r on that is wanted for so much -/
def neC (sd : Nat → Int32) (p k : Int32) : Nat → Nat → Int32
  | 0, _ => -1
  | f + 1, r => if wantF sd (nI r) k ≤ p then nI r else neC sd p k f (r + 1)
