/-! the weakest wall -/
theorem i32_le {x y : Int32} : x ≤ y ↔ x.toInt ≤ y.toInt := Int32.le_iff_toInt_le
theorem i32_lt {x y : Int32} : x < y ↔ x.toInt < y.toInt := Int32.lt_iff_toInt_lt
theorem wk_spec (f : Nat → Int32) : ∀ i, wkI f i ≤ i ∧ (∀ j, j < wkI f i → f (12 + wkI f i) < f (12 + j)) ∧ ∀ j, j ≤ i → f (12 + wkI f i) ≤ f (12 + j)
  | 0 => ⟨Nat.le_refl 0, fun j hj => absurd hj (Nat.not_lt_zero j), fun j hj => by
      rw [show j = 0 by omega]
      exact Int32.le_refl _⟩
  | i + 1 => by
    obtain ⟨h1, h2, h3⟩ := wk_spec f i
    rw [wkI]
    split
    · rename_i hc
      refine ⟨by omega, h2, fun j hj => ?_⟩
      rcases Nat.lt_or_ge i j with q | q
      · rw [show j = i + 1 by omega]
        exact hc
      · exact h3 j q
    · rename_i hc
      have hc := Int32.not_le.mp hc
      refine ⟨Nat.le_refl _, fun j hj => ?_, fun j hj => ?_⟩
      · have := h3 j (by omega)
        rw [i32_lt] at hc ⊢
        rw [i32_le] at this
        omega
      · rcases Nat.lt_or_ge i j with q | q
        · rw [show j = i + 1 by omega]
          exact Int32.le_refl _
        · have := h3 j q
          rw [i32_lt] at hc
          rw [i32_le] at this ⊢
          omega
theorem wk_uniq {f : Nat → Int32} {i k : Nat} (h1 : k ≤ i) (h2 : ∀ j, j < k → f (12 + k) < f (12 + j)) (h3 : ∀ j, j ≤ i → f (12 + k) ≤ f (12 + j)) : wkI f i = k := by
  obtain ⟨g1, g2, g3⟩ := wk_spec f i
  rcases Nat.lt_trichotomy (wkI f i) k with q | q | q
  · have a := h2 _ q
    have b := g3 k h1
    rw [i32_lt] at a
    rw [i32_le] at b
    omega
  · exact q
  · have a := g2 _ q
    have b := h3 _ g1
    rw [i32_lt] at a
    rw [i32_le] at b
    omega
theorem dm_12 (q i : Nat) : (dmI q i).toInt = 1 ∨ (dmI q i).toInt = 2 := by
  unfold dmI
  split
  · right; decide
  · left; decide
theorem i32_sub {x d : Int32} (hx : 0 < x) (hd : d.toInt = 1 ∨ d.toInt = 2) : (x - d).toInt = x.toInt - d.toInt := by
  rw [i32_lt] at hx
  have h0 : (0 : Int32).toInt = 0 := by decide
  have h1 := x.toInt_lt
  have h2 := x.le_toInt
  rw [Int32.toInt_sub]
  apply Int.bmod_eq_of_le <;> omega
theorem hit_at (F : Nat → Int32) (k : Nat) (d : Int32) : hitF F k d (12 + k) = F (12 + k) - d := by
  unfold hitF
  rw [upd_s, upd_n (by omega)]
theorem hit_ne {F : Nat → Int32} {k j : Nat} {d : Int32} (h9 : j ≠ 9) (h : j ≠ 12 + k) : hitF F k d j = F j := by
  unfold hitF
  rw [upd_n h, upd_n h9]
/-- a wall that was the weakest stays so till it falls -/
theorem aim_stick {F : Nat → Int32} {due : Int32} {w q i : Nat} (hw : 0 < w) (hB : 0 < F (12 + aimK due F w)) : aimK due (hitF F (aimK due F w) (dmI q i)) w = aimK due F w := by
  by_cases hd : due = -1
  · have ha : ∀ G, aimK due G w = wkI G (w - 1) := fun G => if_pos hd
    rw [ha, ha F]
    rw [ha F] at hB
    obtain ⟨g1, g2, g3⟩ := wk_spec F (w - 1)
    have hs := i32_sub hB (dm_12 q i)
    have hd12 := dm_12 q i
    refine wk_uniq g1 (fun j hj => ?_) (fun j hj => ?_)
    · rw [hit_at, hit_ne (by omega) (by omega)]
      have := g2 j hj
      rw [i32_lt] at this ⊢
      omega
    · by_cases e : j = wkI F (w - 1)
      · rw [e]; exact Int32.le_refl _
      · rw [hit_at, hit_ne (by omega) (by omega)]
        have := g3 j hj
        rw [i32_le] at this ⊢
        omega
  · unfold aimK
    rw [if_neg hd, if_neg hd]
/-! rows laid in another order -/
theorem upd_c {f : Nat → Int32} {a b : Nat} {x y : Int32} (h : a ≠ b) : upd (upd f a x) b y = upd (upd f b y) a x := by
  funext j
  unfold upd
  by_cases e : j = b
  · rw [if_pos e, if_neg (by omega), if_pos e]
  · rw [if_neg e, if_neg e]
/-- a breach, as the class counts it -/
theorem br_eq (sd st : Nat → Int32) (T : Nat → Int32) (pb : Int32) (F : Nat → Int32) (k : Nat) (hk : k < 6) (hT : T 10 = sd 13) : mvF (frF (upd (upd (upd F 6 (F 6 + 1)) (18 + k) (upd F 6 (F 6 + 1) (18 + k) + 1)) (12 + k) (st k)) (sd 13)) 0 1 pb = rBr T st pb F k := by
  unfold rBr
  rw [hT]
  congr 2
  rw [upd_n (show 18 + k ≠ 6 by omega), upd_n (show 18 + k ≠ 12 + k by omega), upd_n (show 6 ≠ 18 + k by omega), upd_n (show 6 ≠ 12 + k by omega)]
  rw [upd_c (show 18 + k ≠ 12 + k by omega), upd_c (show 6 ≠ 12 + k by omega), upd_c (show 6 ≠ 18 + k by omega)]
theorem sgFx {f : Nat → Int32} {i : Nat} (h : i ≠ 11) : sgF f (-1) i = upd f 10 (-1) i := by
  unfold sgF
  rw [upd_n h]
/-- the class's numbers of a siege in the reference's order; a contract's -/
def tOf (sd fn : Nat → Int32) : Nat → Int32 := fun i => if 15 ≤ i then fn (i - 15) else [0, sd 3, sd 4, sd 5, sd 6, sd 7, sd 8, sd 9, sd 10, sd 12, sd 13, sd 14, sd 18, sd 21, sd 22].getD i 0
def cOf (pd : Nat → Int32) : Nat → Int32 := fun i => if i = 1 then wpF pd else pd i
theorem tOf_15 (sd fn : Nat → Int32) (r : Nat) : tOf sd fn (15 + r) = fn r := by
  unfold tOf
  rw [if_pos (by omega), show 15 + r - 15 = r by omega]
/-- the bounds of what a siege's text says -/
def bdT (T : Nat → Int32) : Prop := (∃ a, a ≤ 9 ∧ T 3 = nI a) ∧ (∃ a, a ≤ 9 ∧ T 6 = nI a) ∧ (∃ a, a ≤ 100 ∧ T 8 = nI a) ∧ (∃ a, a ≤ 50 ∧ T 10 = nI a) ∧ (∃ a, a ≤ 50 ∧ T 11 = nI a) ∧ (∃ a, a ≤ 9 ∧ T 12 = nI a) ∧ ∀ r, r < 10 → ∃ a, a ≤ 20 ∧ T (15 + r) = nI a
/-- the bounds of how things stand -/
def bdF (w : Nat) (R3 f : Nat → Int32) : Prop := (∃ a b c, f 0 = nI a ∧ f 1 = nI b ∧ f 2 = nI c ∧ a + b + c ≤ 60000) ∧ (∃ m n, f 3 = nI m ∧ f 4 = nI n ∧ m + n ≤ 3000) ∧ (∃ x, x ≤ 100 ∧ f 5 = nI x) ∧ ∀ k, k < w → ∃ v s, 1 ≤ v ∧ v ≤ s ∧ s ≤ 99 ∧ f (12 + k) = nI v ∧ R3 k = nI s
theorem pay_eq (a b mm : Int32) : (if 10 ≤ mm - mm / 12 * 12 then b else if 1 < mm - mm / 12 * 12 then a else b) = payR a b mm := by
  unfold payR
  have h10 : (10 : Int32).toInt = 10 := by decide
  have h9 : (9 : Int32).toInt = 9 := by decide
  have h2 : (2 : Int32).toInt = 2 := by decide
  have h1 : (1 : Int32).toInt = 1 := by decide
  by_cases c1 : 10 ≤ mm - mm / 12 * 12
  · rw [if_pos c1, if_pos (show 9 < mm - mm / 12 * 12 by rw [i32_le] at c1; rw [i32_lt]; omega)]
  · rw [if_neg c1, if_neg (show ¬ 9 < mm - mm / 12 * 12 by rw [i32_le] at c1; rw [i32_lt]; omega)]
    by_cases c2 : 1 < mm - mm / 12 * 12
    · rw [if_pos c2, if_neg (show ¬ mm - mm / 12 * 12 < 2 by rw [i32_lt] at c2 ⊢; omega)]
    · rw [if_neg c2, if_pos (show mm - mm / 12 * 12 < 2 by rw [i32_lt] at c2 ⊢; omega)]
theorem payF_eq (pd : Nat → Int32) (mm : Int32) : payF pd mm = payR (cOf pd 0) (cOf pd 1) mm := pay_eq (pd 0) (wpF pd) mm
/-- fear grows less -/
theorem fe_eq {sd fn f : Nat → Int32} (hT : bdT (tOf sd fn)) (h5 : ∃ x, x ≤ 100 ∧ f 5 = nI x) : psA sd f = rFe (tOf sd fn) f := by
  obtain ⟨-, -, -, -, ⟨a, ha, e⟩, -⟩ := hT
  obtain ⟨x, hx, e5⟩ := h5
  have e : sd 14 = nI a := e
  unfold psA rFe
  rw [show tOf sd fn 11 = sd 14 from rfl, e, e5]
  congr 1
  exact (by decide +kernel : ∀ a, a < 51 → ∀ x, x < 101 → (if 0 < nI x - nI a then nI x - nI a else 0) = if nI x < nI a then 0 else nI x - nI a) a (by omega) x (by omega)
theorem mv_c {f : Nat → Int32} {k : Nat} {v d : Int32} (hk : 12 ≤ k) : mvF (upd f k v) 0 2 d = upd (mvF f 0 2 d) k v := by
  unfold mvF
  rw [upd_n (show 0 ≠ k by omega), upd_c (show k ≠ 0 by omega), upd_n (show 2 ≠ k by omega), upd_c (show k ≠ 2 by omega)]
theorem md_eq {sd fn st me f : Nat → Int32} (hT : bdT (tOf sd fn)) : ∀ i, mendF sd st me f i = rMd (tOf sd fn) st me f i
  | 0 => rfl
  | i + 1 => by
    have hp : (sd 18 ≤ 0) ↔ (tOf sd fn 12 = 0) := by
      obtain ⟨-, -, -, -, -, ⟨a, ha, e⟩, -⟩ := hT
      rw [e, show sd 18 = nI a from e]
      exact (by decide : ∀ a, a < 10 → (nI a ≤ 0 ↔ nI a = 0)) a (by omega)
    rw [mendF_s, rMd_s, md_eq hT i, mendS, rMdS, mv_c (by omega)]
    have eb : mdB sd (rMd (tOf sd fn) st me f i) (mdA st me (rMd (tOf sd fn) st me f i) i) = rMdB (tOf sd fn) (rMd (tOf sd fn) st me f i) (rMdA st me (rMd (tOf sd fn) st me f i) i) := by
      unfold mdB rMdB
      by_cases c : sd 18 ≤ 0
      · rw [if_pos c, if_pos (hp.mp c)]; rfl
      · rw [if_neg c, if_neg (fun h => c (hp.mpr h))]; rfl
    rw [eb, Int32.mul_comm, show tOf sd fn 12 = sd 18 from rfl, mvF_n _ _ _ _ _ (show 12 + i ≠ 0 by omega) (show 12 + i ≠ 2 by omega)]
theorem ds_eq {sd fn f : Nat → Int32} (hT : bdT (tOf sd fn)) : psD sd f = rDes (tOf sd fn) f := by
  obtain ⟨⟨a, ha, e3⟩, ⟨b, hb, e6⟩, -⟩ := hT
  have e5 : sd 5 = nI a := e3
  have e8 : sd 8 = nI b := e6
  unfold psD dsF rDes mnF
  rw [e3, e6, e5, e8]
  have k1 := (by decide +kernel : ∀ a, a < 10 → ∀ b, b < 10 → ((nI b - nI a ≤ 0 ↔ ¬ nI a < nI b) ∧ (nI b - nI a ≤ 0 → (if 0 ≤ nI b - nI a then nI b - nI a else 0 - (nI b - nI a)) = nI a - nI b) ∧ (¬ nI b - nI a ≤ 0 → (if 0 ≤ nI b - nI a then nI b - nI a else 0 - (nI b - nI a)) = nI b - nI a))) a (by omega) b (by omega)
  by_cases c : nI b - nI a ≤ 0
  · rw [if_pos c, if_neg (k1.1.mp c), k1.2.1 c]
  · rw [if_neg c, if_pos (Decidable.not_not.mp (fun h => c (k1.1.mpr h))), k1.2.2 c]
theorem tail_eq {sd fn st me f : Nat → Int32} {w : Nat} (hT : bdT (tOf sd fn)) (h5 : ∃ x, x ≤ 100 ∧ f 5 = nI x) : psT sd st me w f = rTail (tOf sd fn) st me w f := by
  unfold psT rTail
  rw [fe_eq hT h5, md_eq hT, ds_eq hT]
  have e1 : ∀ F, psB sd F = rCk1 (tOf sd fn) F := fun F => by unfold psB rCk1; rw [Int32.mul_comm]; rfl
  have e2 : ∀ F, psC sd F = rCk2 (tOf sd fn) F := fun F => by unfold psC rCk2; rw [Int32.mul_comm]; rfl
  rw [e1, e2]
/-! bounds are kept -/
section BD
variable {T R3 R4 C f g : Nat → Int32} {w k q i : Nat} {d pb due : Int32}
theorem mn_I {a x : Nat} (ha : a < 2147483648) (hx : x < 2147483648) : (if nI a < nI x then nI a else nI x) = nI (min a x) := by
  by_cases h : a < x
  · rw [if_pos ((nI_ltI ha hx).mpr h), show min a x = a by omega]
  · rw [if_neg (fun h9 => h ((nI_ltI ha hx).mp h9)), show min a x = x by omega]
theorem bd_mv {i j : Nat} (hi : i < 3) (hj : j < 3) (hij : i ≠ j) (hd : ∃ x, x < 2147483648 ∧ d = nI x) (h : bdF w R3 f) : bdF w R3 (mvF f i j d) := by
  obtain ⟨⟨a, b, c, e0, e1, e2, hs⟩, h3, h5, hL⟩ := h
  obtain ⟨x, hx, rfl⟩ := hd
  have hn : ∀ z, 3 ≤ z → mvF f i j (nI x) z = f z := fun z hz => mvF_n _ _ _ _ _ (by omega) (by omega)
  refine ⟨?_, by rw [hn 3 (by omega), hn 4 (by omega)]; exact h3, by rw [hn 5 (by omega)]; exact h5, fun k hk => by rw [hn (12 + k) (by omega)]; exact hL k hk⟩
  have ht : ∀ z, z < 3 → ∃ v, v ≤ 60000 ∧ f z = nI v ∧ v = [a, b, c].getD z 0 := by
    intro z hz
    rcases (show z = 0 ∨ z = 1 ∨ z = 2 by omega) with rfl | rfl | rfl
    · exact ⟨a, by omega, e0, rfl⟩
    · exact ⟨b, by omega, e1, rfl⟩
    · exact ⟨c, by omega, e2, rfl⟩
  obtain ⟨u, hu, eu, du⟩ := ht i hi
  obtain ⟨v, hv, ev, dv⟩ := ht j hj
  have key : ∀ z, mvF f i j (nI x) z = if z = j then nI (v + min u x) else if z = i then nI (u - min u x) else f z := by
    intro z
    unfold mvF
    rw [eu, mn_I (by omega) hx]
    by_cases c1 : z = j
    · rw [c1, upd_s, if_pos rfl, upd_n (fun h => hij h.symm), ev, nI_add]
    · rw [upd_n c1, if_neg c1]
      by_cases c2 : z = i
      · rw [c2, upd_s, if_pos rfl, pk_sub (by omega)]
      · rw [upd_n c2, if_neg c2]
  rcases (show (i = 0 ∧ j = 1) ∨ (i = 0 ∧ j = 2) ∨ (i = 1 ∧ j = 0) ∨ (i = 1 ∧ j = 2) ∨ (i = 2 ∧ j = 0) ∨ (i = 2 ∧ j = 1) by omega) with ⟨rfl, rfl⟩ | ⟨rfl, rfl⟩ | ⟨rfl, rfl⟩ | ⟨rfl, rfl⟩ | ⟨rfl, rfl⟩ | ⟨rfl, rfl⟩
  · have du : u = a := du
    have dv : v = b := dv
    exact ⟨u - min u x, v + min u x, c, key 0, key 1, (key 2).trans e2, by omega⟩
  · have du : u = a := du
    have dv : v = c := dv
    exact ⟨u - min u x, b, v + min u x, key 0, (key 1).trans e1, key 2, by omega⟩
  · have du : u = b := du
    have dv : v = a := dv
    exact ⟨v + min u x, u - min u x, c, key 0, key 1, (key 2).trans e2, by omega⟩
  · have du : u = b := du
    have dv : v = c := dv
    exact ⟨a, u - min u x, v + min u x, (key 0).trans e0, key 1, key 2, by omega⟩
  · have du : u = c := du
    have dv : v = a := dv
    exact ⟨v + min u x, b, u - min u x, key 0, (key 1).trans e1, key 2, by omega⟩
  · have du : u = c := du
    have dv : v = b := dv
    exact ⟨a, v + min u x, u - min u x, (key 0).trans e0, key 1, key 2, by omega⟩
theorem bd_o (h : bdF w R3 f) (i : Nat) (v : Int32) (h1 : 6 ≤ i) (h2 : i < 12 ∨ 12 + w ≤ i) : bdF w R3 (upd f i v) := by
  have hn : ∀ z, z < 6 → upd f i v z = f z := fun z hz => upd_n (by omega)
  unfold bdF
  rw [hn 0 (by decide), hn 1 (by decide), hn 2 (by decide), hn 3 (by decide), hn 4 (by decide), hn 5 (by decide)]
  exact ⟨h.1, h.2.1, h.2.2.1, fun k hk => by rw [upd_n (by omega)]; exact h.2.2.2 k hk⟩
theorem bd_5 (h : bdF w R3 f) {v : Int32} (hv : ∃ x, x ≤ 100 ∧ v = nI x) : bdF w R3 (upd f 5 v) := by
  unfold bdF
  rw [upd_n (show 0 ≠ 5 by decide), upd_n (show 1 ≠ 5 by decide), upd_n (show 2 ≠ 5 by decide), upd_n (show 3 ≠ 5 by decide), upd_n (show 4 ≠ 5 by decide), upd_s]
  exact ⟨h.1, h.2.1, hv, fun k hk => by rw [upd_n (by omega)]; exact h.2.2.2 k hk⟩
theorem bd_fr (h : bdF w R3 f) (hd : ∃ x, x ≤ 100 ∧ d = nI x) : bdF w R3 (frF f d) := by
  unfold frF
  refine bd_5 h ?_
  obtain ⟨x, hx, e⟩ := h.2.2.1
  obtain ⟨y, hy, rfl⟩ := hd
  rw [e, nI_add]
  by_cases c : nI (x + y) < 100
  · rw [if_pos c]
    have := (nI_ltI (a := x + y) (b := 100) (by omega) (by decide)).mp c
    exact ⟨x + y, by omega, rfl⟩
  · rw [if_neg c]
    exact ⟨100, by decide, rfl⟩
theorem bd_L (h : bdF w R3 f) {k : Nat} {u : Int32} (hu : ∃ v s, 1 ≤ v ∧ v ≤ s ∧ s ≤ 99 ∧ u = nI v ∧ R3 k = nI s) : bdF w R3 (upd f (12 + k) u) := by
  unfold bdF
  rw [upd_n (show 0 ≠ 12 + k by omega), upd_n (show 1 ≠ 12 + k by omega), upd_n (show 2 ≠ 12 + k by omega), upd_n (show 3 ≠ 12 + k by omega), upd_n (show 4 ≠ 12 + k by omega), upd_n (show 5 ≠ 12 + k by omega)]
  refine ⟨h.1, h.2.1, h.2.2.1, fun j hj => ?_⟩
  by_cases e : j = k
  · rw [e, upd_s]; exact hu
  · rw [upd_n (by omega)]; exact h.2.2.2 j hj
theorem dm_n (q i : Nat) : ∃ d, (d = 1 ∨ d = 2) ∧ dmI q i = nI d := by
  unfold dmI
  split
  · exact ⟨2, Or.inr rfl, rfl⟩
  · exact ⟨1, Or.inl rfl, rfl⟩
/-- one cork -/
theorem bd_hit {X : ShS} (hw : 0 < w) (hd : due = -1 ∨ ∃ k, k < w ∧ due = nI k) (hw6 : w ≤ 6) (hT : ∃ a, a ≤ 50 ∧ T 10 = nI a) (hpb : ∃ x, x < 2147483648 ∧ pb = nI x) (h : bdF w R3 X.1) : bdF w R3 (rHit T R3 pb due q w i X).1 := by
  have ha := aim_lt (f := X.1) hw hd hw6
  obtain ⟨v, s, hv1, hvs, hs, e, e3⟩ := h.2.2.2 _ ha
  obtain ⟨d, hd12, ed⟩ := dm_n q i
  unfold rHit
  split
  · rename_i hc
    rw [hit_at, e, ed] at hc
    have hlt : d < v := by
      rcases Nat.lt_or_ge d v with c | c
      · exact c
      · exfalso
        have hz : ∀ v, v < 100 → ∀ d, d < 3 → v ≤ d → ¬ 0 < nI v - nI d := by decide +kernel
        exact hz v (by omega) d (by omega) c hc
    unfold hitF
    refine bd_L (bd_o h 9 _ (by decide) (Or.inl (by decide))) ⟨v - d, s, by omega, by omega, hs, ?_, e3⟩
    rw [upd_n (by omega), e, ed, pk_sub (by omega)]
  · unfold rBr
    refine bd_mv (by decide) (by decide) (by decide) hpb (bd_fr (bd_o (bd_o ?_ (18 + aimK due X.1 w) _ (by omega) (Or.inr (by omega))) 6 _ (by decide) (Or.inl (by decide))) (by obtain ⟨a, ha9, ea⟩ := hT; exact ⟨a, by omega, ea⟩))
    unfold hitF
    have e9 : ∀ (G : Nat → Int32) (k : Nat) (x y : Int32), upd (upd G k x) k y = upd G k y := by
      intro G k x y
      funext j
      unfold upd
      split <;> rfl
    rw [e9]
    exact bd_L (bd_o h 9 _ (by decide) (Or.inl (by decide))) ⟨s, s, by omega, Nat.le_refl s, hs, e3, e3⟩
theorem bd_sh (hw : 0 < w) (hd : due = -1 ∨ ∃ k, k < w ∧ due = nI k) (hw6 : w ≤ 6) (hT : ∃ a, a ≤ 50 ∧ T 10 = nI a) (hpb : ∃ x, x < 2147483648 ∧ pb = nI x) (h : bdF w R3 f) : ∀ n, bdF w R3 (rSh T R3 pb due q w f g n).1
  | 0 => h
  | n + 1 => bd_hit hw hd hw6 hT hpb (bd_sh hw hd hw6 hT hpb h n)
theorem bd_shN {ck : Nat} (hd : due = -1 ∨ ∃ k, k < w ∧ due = nI k) (hw6 : w ≤ 6) (hT : ∃ a, a ≤ 50 ∧ T 10 = nI a) (hpb : ∃ x, x < 2147483648 ∧ pb = nI x) (h : bdF w R3 f) : bdF w R3 (rSh T R3 pb due q w f g (nSh w ck)).1 := by
  unfold nSh
  split
  · exact h
  · exact bd_sh (by omega) hd hw6 hT hpb h ck
theorem bd_sg (h : bdF w R3 f) (v : Int32) : bdF w R3 (sgF f v) := bd_o (bd_o h 10 _ (by decide) (Or.inl (by decide))) 11 _ (by decide) (Or.inl (by decide))
/-- the bounds of a contract -/
def bdC (C : Nat → Int32) : Prop := (∃ a, a ≤ 999 ∧ C 0 = nI a) ∧ (∃ a, a ≤ 999 ∧ C 1 = nI a) ∧ ∃ a, a ≤ 99 ∧ C 4 = nI a
theorem bd_und {ck : Nat} {mm : Int32} (hd : due = -1 ∨ ∃ k, k < w ∧ due = nI k) (hw6 : w ≤ 6) (hq : q < 10) (hT : bdT T) (hC : bdC C) (h : bdF w R3 f) : bdF w R3 (rUnd T R3 C due q ck w mm f g) := by
  obtain ⟨⟨a, ha, ea⟩, ⟨b, hb, eb⟩, c, hc, ec⟩ := hC
  have hpay : ∃ x, x < 2147483648 ∧ payR (C 0) (C 1) mm = nI x := by
    unfold payR
    rw [ea, eb]
    split
    · exact ⟨b, by omega, rfl⟩
    · split
      · exact ⟨b, by omega, rfl⟩
      · exact ⟨a, by omega, rfl⟩
  unfold rUnd
  split
  · exact bd_sg (bd_o h 8 _ (by decide) (Or.inl (by decide))) _
  · unfold rShF
    refine bd_fr (bd_o (bd_shN hd hw6 hT.2.2.2.1 ⟨c, by omega, ec⟩ (bd_mv (by decide) (by decide) (by decide) hpay h)) 7 _ (by decide) (Or.inl (by decide))) ?_
    obtain ⟨x, hx, e⟩ := hT.2.2.2.2.2.2 q hq
    exact ⟨x, by omega, e⟩
end BD
