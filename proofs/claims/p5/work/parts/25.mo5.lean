/-! a month, as the reference walks it -/
theorem vup0 (M : Nat → Nat → Int32) (a : Nat) : va_up M a (M a) = M := by
  funext b
  unfold va_up
  by_cases h : b = a
  · rw [if_pos h, h]
  · rw [if_neg h]
theorem vup2 (M : Nat → Nat → Int32) (a : Nat) (g : Nat → Int32) (k : Nat) : va_up (va_up M a g) a (upd ((va_up M a g) a) k ((va_up M a g) a k + 1)) = va_up M a (upd g k (g k + 1)) := by
  funext b
  unfold va_up
  by_cases h : b = a
  · rw [if_pos h, if_pos h, if_pos rfl]
  · rw [if_neg h, if_neg h, if_neg h]
theorem vupn {M : Nat → Nat → Int32} {a b : Nat} {g : Nat → Int32} (h : b ≠ a) : va_up M a g b = M b := if_neg h
theorem vups {M : Nat → Nat → Int32} {a : Nat} {g : Nat → Int32} : va_up M a g a = g := if_pos rfl
section RS
variable {T R3 f g F G : Nat → Int32} {pb due fl : Int32} {q w n k i : Nat}
theorem dm_2 (h : q ≤ 4) (hi : i < 101) (h2 : nI i - nI i / 2 * 2 = 0) : 2 = dmI q i := by
  unfold dmI
  rw [if_pos ⟨h, (par2 i hi).mp h2⟩]
theorem dm_1 (h : ¬ q ≤ 4) : 1 = dmI q i := by
  unfold dmI
  rw [if_neg (fun h9 => h h9.1)]
theorem rS_s (hX : rSh T R3 pb due q w f g n = (F, G, fl)) (hk : k = aimK due F w) (hc : 0 < hitF F k (dmI q (n + 1)) (12 + k)) : rSh T R3 pb due q w f g (n + 1) = (hitF F k (dmI q (n + 1)), upd G k (G k + 1), fl) := by
  show rHit T R3 pb due q w (n + 1) (rSh T R3 pb due q w f g n) = _
  unfold rHit
  rw [hX]
  dsimp only
  rw [← hk, if_pos hc]
theorem rS_b (hX : rSh T R3 pb due q w f g n = (F, G, fl)) (hk : k = aimK due F w) (hc : ¬ 0 < hitF F k (dmI q (n + 1)) (12 + k)) : rSh T R3 pb due q w f g (n + 1) = (rBr T R3 pb (hitF F k (dmI q (n + 1))) k, upd G k (G k + 1), 1) := by
  show rHit T R3 pb due q w (n + 1) (rSh T R3 pb due q w f g n) = _
  unfold rHit
  rw [hX]
  dsimp only
  rw [← hk, if_neg hc]
theorem k_shX (hd : due = -1 ∨ ∃ k, k < w ∧ due = nI k) (hw6 : w ≤ 6) (hw : 0 < w) (hX : rSh T R3 pb due q w f g n = (F, G, fl)) : kpP f F := by
  have := k_sh (T := T) (R3 := R3) (pb := pb) (q := q) (f := f) (g := g) hd hw6 hw n
  rw [hX] at this
  exact this
theorem pay_1 {c0 c1 m : Int32} (h : 9 < m - m / 12 * 12) : c1 = payR c0 c1 m := by unfold payR; rw [if_pos h]
theorem pay_2 {c0 c1 m : Int32} (h : ¬ 9 < m - m / 12 * 12) (h2 : ¬ 2 ≤ m - m / 12 * 12) : c1 = payR c0 c1 m := by unfold payR; rw [if_neg h, if_pos (Int32.not_le.mp h2)]
theorem pay_3 {c0 c1 m : Int32} (h : ¬ 9 < m - m / 12 * 12) (h2 : 2 ≤ m - m / 12 * 12) : c0 = payR c0 c1 m := by unfold payR; rw [if_neg h, if_neg (Int32.not_lt.mpr h2)]
theorem md_pool {T f : Nat → Int32} {M M2 : Nat → Nat → Int32} {r : Nat → Nat} {w : Nat} (hw6 : w ≤ 6) (h : ∀ i, i < w → M2 (r i) = M (r i)) : rMd T (fun i => M2 (r i) 0) (fun i => M2 (r i) 1) f w = rMd T (fun i => M (r i) 0) (fun i => M (r i) 1) f w := by
  funext i
  exact cg_md (P := fun _ => True) (fun _ _ _ => trivial) rfl (fun k hk => by rw [h k hk]) (fun k hk => by rw [h k hk]) hw6 cg_r w (Nat.le_refl w) i trivial
end RS
section UN
variable {T R3 C f g : Nat → Int32} {due mm : Int32} {q ck w ci it : Nat}
theorem und_10 (hd : due = -1 ∨ ∃ k, k < w ∧ due = nI k) (hw6 : w ≤ 6) {x : Int32} (h : f 10 = x) (hn : ¬ rUnd T R3 C due q ck w mm f g 10 = -1) : rUnd T R3 C due q ck w mm f g 10 = x := by
  unfold rUnd at hn ⊢
  split
  · rename_i c
    rw [if_pos c, sgF_10] at hn
    exact absurd rfl hn
  · rw [(k_shF (k_shN hd hw6)).1, mvF_n _ _ _ _ _ (by decide) (by decide)]
    exact h
theorem und_it (hd : due = -1 ∨ ∃ k, k < w ∧ due = nI k) (hw6 : w ≤ 6) {x : Int32} (h : f 11 = x) (hn : ¬ rUnd T R3 C due q ck w mm f g 10 = -1) : rUnd T R3 C due q ck w mm f g 11 = x := by
  unfold rUnd at hn ⊢
  split
  · rename_i c
    rw [if_pos c, sgF_10] at hn
    exact absurd rfl hn
  · rw [(k_shF (k_shN hd hw6)).2.1, mvF_n _ _ _ _ _ (by decide) (by decide)]
    exact h
theorem und_24 (hd : due = -1 ∨ ∃ k, k < w ∧ due = nI k) (hw6 : w ≤ 6) : rUnd T R3 C due q ck w mm f g 24 = f 24 := by
  unfold rUnd
  split
  · rw [sg_24, upd_n (by decide)]
  · rw [(k_shF (k_shN hd hw6)).2.2, mvF_n _ _ _ _ _ (by decide) (by decide)]
end UN
