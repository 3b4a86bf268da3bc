/-! a month, precisely: as the reference counts it -/
/-- what a cork takes -/
def dmI (q i : Nat) : Int32 := if q ≤ 4 ∧ i % 2 = 0 then 2 else 1
/-- the wall that a cork is led to -/
def aimK (due : Int32) (F : Nat → Int32) (w : Nat) : Nat := if due = -1 then wkI F (w - 1) else due.toNatClampNeg
def hitF (F : Nat → Int32) (k : Nat) (d : Int32) : Nat → Int32 := upd (upd F 9 (F 9 + 1)) (12 + k) ((upd F 9 (F 9 + 1)) (12 + k) - d)
def rBr (T R3 : Nat → Int32) (pb : Int32) (F : Nat → Int32) (k : Nat) : Nat → Int32 := mvF (frF (upd (upd (upd F (12 + k) (R3 k)) (18 + k) ((upd F (12 + k) (R3 k)) (18 + k) + 1)) 6 ((upd (upd F (12 + k) (R3 k)) (18 + k) ((upd F (12 + k) (R3 k)) (18 + k) + 1)) 6 + 1)) (T 10)) 0 1 pb
abbrev ShS : Type := (Nat → Int32) × (Nat → Int32) × Int32
def rHit (T R3 : Nat → Int32) (pb due : Int32) (q w i : Nat) (X : ShS) : ShS :=
  if 0 < hitF X.1 (aimK due X.1 w) (dmI q i) (12 + aimK due X.1 w) then (hitF X.1 (aimK due X.1 w) (dmI q i), upd X.2.1 (aimK due X.1 w) (X.2.1 (aimK due X.1 w) + 1), X.2.2)
  else (rBr T R3 pb (hitF X.1 (aimK due X.1 w) (dmI q i)) (aimK due X.1 w), upd X.2.1 (aimK due X.1 w) (X.2.1 (aimK due X.1 w) + 1), 1)
def rSh (T R3 : Nat → Int32) (pb due : Int32) (q w : Nat) (f g : Nat → Int32) : Nat → ShS
  | 0 => (f, g, 0)
  | i + 1 => rHit T R3 pb due q w (i + 1) (rSh T R3 pb due q w f g i)
def nSh (w ck : Nat) : Nat := if w = 0 then 0 else ck
def rMiss (due fl : Int32) : Int32 := if due = -1 then 0 else if fl = 0 then 1 else 0
def rShF (T : Nat → Int32) (due : Int32) (q : Nat) (X : ShS) : Nat → Int32 := frF (upd X.1 7 (X.1 7 + rMiss due X.2.2)) (T (15 + q))
def payR (c0 c1 mm : Int32) : Int32 := if 9 < mm - mm / 12 * 12 then c1 else if mm - mm / 12 * 12 < 2 then c1 else c0
def rUnd (T R3 C : Nat → Int32) (due : Int32) (q ck w : Nat) (mm : Int32) (f g : Nat → Int32) : Nat → Int32 :=
  if f 0 < payR (C 0) (C 1) mm then sgF (upd f 8 (f 8 + 1)) (-1) else rShF T due q (rSh T R3 (C 4) due q w (mvF f 0 1 (payR (C 0) (C 1) mm)) g (nSh w ck))
def rUndG (T R3 C : Nat → Int32) (due : Int32) (q ck w : Nat) (mm : Int32) (f g : Nat → Int32) : Nat → Int32 :=
  if f 0 < payR (C 0) (C 1) mm then g else (rSh T R3 (C 4) due q w (mvF f 0 1 (payR (C 0) (C 1) mm)) g (nSh w ck)).2.1
def rMdA (R3 R4 f : Nat → Int32) (i : Nat) : Int32 := if R3 i - f (12 + i) < R4 i then R3 i - f (12 + i) else R4 i
def rMdB (T f : Nat → Int32) (a : Int32) : Int32 := if T 12 = 0 then a else if f 0 / T 12 < a then f 0 / T 12 else a
def rMdS (T R3 R4 f : Nat → Int32) (i : Nat) : Nat → Int32 := upd (mvF f 0 2 (T 12 * rMdB T f (rMdA R3 R4 f i))) (12 + i) ((mvF f 0 2 (T 12 * rMdB T f (rMdA R3 R4 f i))) (12 + i) + rMdB T f (rMdA R3 R4 f i))
def rMd (T R3 R4 f : Nat → Int32) : Nat → Nat → Int32
  | 0 => f
  | i + 1 => rMdS T R3 R4 (rMd T R3 R4 f i) i
theorem rMd_s (T R3 R4 f : Nat → Int32) (i : Nat) : rMd T R3 R4 f (i + 1) = rMdS T R3 R4 (rMd T R3 R4 f i) i := rfl
def rDes (T f : Nat → Int32) : Nat → Int32 :=
  if T 3 < T 6 then upd (upd f 3 (f 3 - f 3 * (T 6 - T 3) / 100)) 4 ((upd f 3 (f 3 - f 3 * (T 6 - T 3) / 100)) 4 + f 3 * (T 6 - T 3) / 100)
  else upd (upd f 4 (f 4 - f 4 * (T 3 - T 6) / 100)) 3 ((upd f 4 (f 4 - f 4 * (T 3 - T 6) / 100)) 3 + f 4 * (T 3 - T 6) / 100)
def rTax (T f : Nat → Int32) : Nat → Int32 := mvF f 2 0 (f 3 * T 8 * f 5 / 10000)
def rFe (T f : Nat → Int32) : Nat → Int32 := upd f 5 (if f 5 < T 11 then 0 else f 5 - T 11)
def rCk1 (T f : Nat → Int32) : Nat → Int32 := mvF f 0 2 (f 3 / 10 * T 3)
def rCk2 (T f : Nat → Int32) : Nat → Int32 := mvF f 1 2 (f 4 / 10 * T 6)
def rTail (T R3 R4 : Nat → Int32) (w : Nat) (f : Nat → Int32) : Nat → Int32 := rDes T (rCk2 T (rCk1 T (rMd T R3 R4 (rFe T f) w)))
def rEnd (q5 it mm : Nat) (f : Nat → Int32) : Nat → Int32 :=
  if f 10 = -1 then upd f 24 (nI (mm + 1)) else if it + 1 = q5 then sgF (upd (upd f 24 (nI (mm + 1))) 11 (nI (it + 1))) (-1) else upd (upd f 24 (nI (mm + 1))) 11 (nI (it + 1))
/-- a month, none in force; under a contract; the corks led in it -/
def rMonN (T R3 R4 : Nat → Int32) (w mm : Nat) (f : Nat → Int32) : Nat → Int32 := upd (rTail T R3 R4 w (rTax T f)) 24 (nI (mm + 1))
def rMonP (T R3 R4 C : Nat → Int32) (due : Int32) (q ck q5 it w mm : Nat) (f g : Nat → Int32) : Nat → Int32 := rEnd q5 it mm (rTail T R3 R4 w (rUnd T R3 C due q ck w (nI mm) (rTax T f) g))
def rMonG (T R3 C : Nat → Int32) (due : Int32) (q ck w mm : Nat) (f g : Nat → Int32) : Nat → Int32 := rUndG T R3 C due q ck w (nI mm) (rTax T f) g
/-! alike at the places that P names -/
def eqP (P : Nat → Prop) (f F : Nat → Int32) : Prop := ∀ i, P i → f i = F i
/-- all that a month reads, but the place 11 -/
def inP (P : Nat → Prop) : Prop := ∀ i, i < 24 → i ≠ 11 → P i
section CG
variable {P : Nat → Prop} {f F g G T T2 R3 S3 R4 S4 C C2 : Nat → Int32} {v V d D : Int32} {k q w i : Nat}
theorem cg_r : eqP P f f := fun _ _ => rfl
theorem cg_u (h : eqP P f F) (k : Nat) (e : v = V) : eqP P (upd f k v) (upd F k V) := by
  intro i hi
  unfold upd
  split
  · exact e
  · exact h i hi
theorem cg_a (hP : inP P) (h : eqP P f F) {i : Nat} (hi : i < 24) (h1 : i ≠ 11) : f i = F i := h i (hP i hi h1)
theorem cg_mv (hP : inP P) (h : eqP P f F) {i j : Nat} (hi : i < 10) (hj : j < 10) (e : d = D) : eqP P (mvF f i j d) (mvF F i j D) := by
  subst e
  have e1 : f i = F i := cg_a hP h (by omega) (by omega)
  unfold mvF
  rw [e1]
  have h1 := cg_u h i (rfl : F i - (if F i < d then F i else d) = _)
  refine cg_u h1 j ?_
  rw [cg_a hP h1 (i := j) (by omega) (by omega)]
theorem cg_fr (hP : inP P) (h : eqP P f F) (e : d = D) : eqP P (frF f d) (frF F D) := by
  subst e
  unfold frF
  rw [cg_a hP h (i := 5) (by decide) (by decide)]
  exact cg_u h 5 rfl
theorem cg_wk (hP : inP P) (h : eqP P f F) : ∀ i, i < 6 → wkI f i = wkI F i
  | 0, _ => rfl
  | i + 1, hi => by
    have ih := cg_wk hP h i (by omega)
    have := wkI_le F i
    rw [wkI, wkI, ih, cg_a hP h (i := 12 + wkI F i) (by omega) (by omega), cg_a hP h (i := 12 + (i + 1)) (by omega) (by omega)]
theorem cg_aim (hP : inP P) (h : eqP P f F) (hw : w ≤ 6) : aimK v f w = aimK v F w := by
  unfold aimK
  rw [cg_wk hP h (w - 1) (by omega)]
theorem aim_lt {due : Int32} (hw : 0 < w) (hd : due = -1 ∨ ∃ k, k < w ∧ due = nI k) (hw6 : w ≤ 6) : aimK due f w < w := by
  unfold aimK
  split
  · have := wkI_le f (w - 1)
    omega
  · rename_i h
    obtain ⟨k, hk, e⟩ := hd.resolve_left h
    rw [e, nI_clamp (by omega)]
    exact hk
theorem cg_hit (hP : inP P) (h : eqP P f F) (hk : k < 6) : eqP P (hitF f k d) (hitF F k d) := by
  unfold hitF
  have h1 := cg_u h 9 (show f 9 + 1 = F 9 + 1 by rw [cg_a hP h (i := 9) (by decide) (by decide)])
  refine cg_u h1 (12 + k) ?_
  rw [cg_a hP h1 (i := 12 + k) (by omega) (by omega)]
theorem cg_br (hP : inP P) (h : eqP P f F) (hk : k < 6) (eT : T 10 = T2 10) (e3 : R3 k = S3 k) : eqP P (rBr T R3 d f k) (rBr T2 S3 d F k) := by
  unfold rBr
  rw [e3, eT]
  have h1 := cg_u h (12 + k) (rfl : S3 k = S3 k)
  have h2 := cg_u h1 (18 + k) (show (upd f (12 + k) (S3 k)) (18 + k) + 1 = (upd F (12 + k) (S3 k)) (18 + k) + 1 by rw [cg_a hP h1 (i := 18 + k) (by omega) (by omega)])
  have h3 := cg_u h2 6 (congrArg (fun z => z + 1) (cg_a hP h2 (i := 6) (by decide) (by decide)))
  exact cg_mv hP (cg_fr hP h3 rfl) (by decide) (by decide) rfl
/-- alike: a state of the shooting -/
def eqS (P : Nat → Prop) (X Y : ShS) : Prop := eqP P X.1 Y.1 ∧ (∀ j, j < 6 → X.2.1 j = Y.2.1 j) ∧ X.2.2 = Y.2.2
theorem cg_g {a : Nat} {g G : Nat → Int32} (h : ∀ j, j < 6 → g j = G j) (ha : a < 6) : ∀ j, j < 6 → upd g a (g a + 1) j = upd G a (G a + 1) j := by
  intro j hj
  unfold upd
  split
  · rw [h a ha]
  · exact h j hj
theorem cg_rHit {X Y : ShS} {due pb : Int32} (hP : inP P) (hw : 0 < w) (hd : due = -1 ∨ ∃ k, k < w ∧ due = nI k) (hw6 : w ≤ 6) (eT : T 10 = T2 10) (e3 : ∀ k, k < w → R3 k = S3 k) (h : eqS P X Y) : eqS P (rHit T R3 pb due q w i X) (rHit T2 S3 pb due q w i Y) := by
  obtain ⟨h1, h2, h3⟩ := h
  have ea : aimK due X.1 w = aimK due Y.1 w := cg_aim hP h1 hw6
  have hl : aimK due Y.1 w < w := aim_lt hw hd hw6
  have hh := cg_hit (d := dmI q i) hP h1 (k := aimK due Y.1 w) (by omega)
  unfold rHit
  rw [ea, cg_a hP hh (i := 12 + aimK due Y.1 w) (by omega) (by omega)]
  split
  · exact ⟨hh, cg_g h2 (by omega), h3⟩
  · exact ⟨cg_br hP hh (by omega) eT (e3 _ hl), cg_g h2 (by omega), rfl⟩
theorem cg_rSh {due pb : Int32} (hP : inP P) (hw : 0 < w) (hd : due = -1 ∨ ∃ k, k < w ∧ due = nI k) (hw6 : w ≤ 6) (eT : T 10 = T2 10) (e3 : ∀ k, k < w → R3 k = S3 k) (h : eqP P f F) (hg : ∀ j, j < 6 → g j = G j) : ∀ n, eqS P (rSh T R3 pb due q w f g n) (rSh T2 S3 pb due q w F G n)
  | 0 => ⟨h, hg, rfl⟩
  | n + 1 => cg_rHit hP hw hd hw6 eT e3 (cg_rSh hP hw hd hw6 eT e3 h hg n)
theorem cg_rShN {due pb : Int32} {ck : Nat} (hP : inP P) (hd : due = -1 ∨ ∃ k, k < w ∧ due = nI k) (hw6 : w ≤ 6) (eT : T 10 = T2 10) (e3 : ∀ k, k < w → R3 k = S3 k) (h : eqP P f F) (hg : ∀ j, j < 6 → g j = G j) : eqS P (rSh T R3 pb due q w f g (nSh w ck)) (rSh T2 S3 pb due q w F G (nSh w ck)) := by
  unfold nSh
  split
  · exact ⟨h, hg, rfl⟩
  · exact cg_rSh hP (by omega) hd hw6 eT e3 h hg ck
theorem cg_rShF {X Y : ShS} {due : Int32} (hP : inP P) (e : T (15 + q) = T2 (15 + q)) (h : eqS P X Y) : eqP P (rShF T due q X) (rShF T2 due q Y) := by
  unfold rShF
  rw [h.2.2, e]
  exact cg_fr hP (cg_u h.1 7 (by rw [cg_a hP h.1 (i := 7) (by decide) (by decide)])) rfl
theorem cg_sg (h : eqP P f F) : eqP P (sgF f v) (sgF F v) := cg_u (cg_u h 10 rfl) 11 rfl
theorem cg_und {due : Int32} {ck : Nat} {mm : Int32} (hP : inP P) (hd : due = -1 ∨ ∃ k, k < w ∧ due = nI k) (hw6 : w ≤ 6) (hq : q ≤ 9) (eT : ∀ i, 0 < i → i < 25 → T i = T2 i) (e3 : ∀ k, k < w → R3 k = S3 k) (e0 : C 0 = C2 0) (e1 : C 1 = C2 1) (e4 : C 4 = C2 4) (h : eqP P f F) (hg : ∀ j, j < 6 → g j = G j) : eqP P (rUnd T R3 C due q ck w mm f g) (rUnd T2 S3 C2 due q ck w mm F G) ∧ ∀ j, j < 6 → rUndG T R3 C due q ck w mm f g j = rUndG T2 S3 C2 due q ck w mm F G j := by
  unfold rUnd rUndG
  rw [e0, e1, e4, cg_a hP h (i := 0) (by decide) (by decide)]
  split
  · exact ⟨cg_sg (cg_u h 8 (by rw [cg_a hP h (i := 8) (by decide) (by decide)])), hg⟩
  · have h2 := cg_rShN (q := q) (pb := C2 4) (ck := ck) hP hd hw6 (eT 10 (by decide) (by decide)) e3 (cg_mv hP h (i := 0) (j := 1) (by decide) (by decide) (rfl : payR (C2 0) (C2 1) mm = _)) hg
    exact ⟨cg_rShF hP (eT _ (by omega) (by omega)) h2, h2.2.1⟩
theorem cg_md (hP : inP P) (eT : T 12 = T2 12) (e3 : ∀ k, k < w → R3 k = S3 k) (e4 : ∀ k, k < w → R4 k = S4 k) (hw6 : w ≤ 6) (h : eqP P f F) : ∀ i, i ≤ w → eqP P (rMd T R3 R4 f i) (rMd T2 S3 S4 F i)
  | 0, _ => h
  | i + 1, hi => by
    have ih := cg_md hP eT e3 e4 hw6 h i (by omega)
    have ea : rMdA R3 R4 (rMd T R3 R4 f i) i = rMdA S3 S4 (rMd T2 S3 S4 F i) i := by unfold rMdA; rw [e3 i (by omega), e4 i (by omega), cg_a hP ih (i := 12 + i) (by omega) (by omega)]
    have eb : rMdB T (rMd T R3 R4 f i) (rMdA S3 S4 (rMd T2 S3 S4 F i) i) = rMdB T2 (rMd T2 S3 S4 F i) (rMdA S3 S4 (rMd T2 S3 S4 F i) i) := by unfold rMdB; rw [eT, cg_a hP ih (i := 0) (by decide) (by decide)]
    rw [rMd_s, rMd_s, rMdS, rMdS, ea, eb, eT]
    have h1 := cg_mv hP ih (i := 0) (j := 2) (by decide) (by decide) (rfl : T2 12 * rMdB T2 (rMd T2 S3 S4 F i) (rMdA S3 S4 (rMd T2 S3 S4 F i) i) = _)
    exact cg_u h1 (12 + i) (by rw [cg_a hP h1 (i := 12 + i) (by omega) (by omega)])
theorem cg_des (hP : inP P) (e3 : T 3 = T2 3) (e6 : T 6 = T2 6) (h : eqP P f F) : eqP P (rDes T f) (rDes T2 F) := by
  unfold rDes
  rw [e3, e6, cg_a hP h (i := 3) (by decide) (by decide), cg_a hP h (i := 4) (by decide) (by decide)]
  split
  · have h1 := cg_u h 3 (rfl : F 3 - F 3 * (T2 6 - T2 3) / 100 = _)
    exact cg_u h1 4 (by rw [cg_a hP h1 (i := 4) (by decide) (by decide)])
  · have h1 := cg_u h 4 (rfl : F 4 - F 4 * (T2 3 - T2 6) / 100 = _)
    exact cg_u h1 3 (by rw [cg_a hP h1 (i := 3) (by decide) (by decide)])
theorem cg_tax (hP : inP P) (e8 : T 8 = T2 8) (h : eqP P f F) : eqP P (rTax T f) (rTax T2 F) := by
  unfold rTax
  rw [e8, cg_a hP h (i := 3) (by decide) (by decide), cg_a hP h (i := 5) (by decide) (by decide)]
  exact cg_mv hP h (by decide) (by decide) rfl
theorem cg_tail (hP : inP P) (eT : ∀ i, 0 < i → i < 25 → T i = T2 i) (e3 : ∀ k, k < w → R3 k = S3 k) (e4 : ∀ k, k < w → R4 k = S4 k) (hw6 : w ≤ 6) (h : eqP P f F) : eqP P (rTail T R3 R4 w f) (rTail T2 S3 S4 w F) := by
  have h1 : eqP P (rFe T f) (rFe T2 F) := by
    unfold rFe
    rw [eT 11 (by decide) (by decide), cg_a hP h (i := 5) (by decide) (by decide)]
    exact cg_u h 5 rfl
  have h2 := cg_md hP (eT 12 (by decide) (by decide)) e3 e4 hw6 h1 w (Nat.le_refl w)
  have h3 : eqP P (rCk1 T (rMd T R3 R4 (rFe T f) w)) (rCk1 T2 (rMd T2 S3 S4 (rFe T2 F) w)) := by
    unfold rCk1
    rw [eT 3 (by decide) (by decide), cg_a hP h2 (i := 3) (by decide) (by decide)]
    exact cg_mv hP h2 (by decide) (by decide) rfl
  have h4 : eqP P (rCk2 T (rCk1 T (rMd T R3 R4 (rFe T f) w))) (rCk2 T2 (rCk1 T2 (rMd T2 S3 S4 (rFe T2 F) w))) := by
    unfold rCk2
    rw [eT 6 (by decide) (by decide), cg_a hP h3 (i := 4) (by decide) (by decide)]
    exact cg_mv hP h3 (by decide) (by decide) rfl
  exact cg_des hP (eT 3 (by decide) (by decide)) (eT 6 (by decide) (by decide)) h4
theorem cg_end {q5 it mm : Nat} (hP : inP P) (h : eqP P f F) : eqP P (rEnd q5 it mm f) (rEnd q5 it mm F) := by
  unfold rEnd
  rw [cg_a hP h (i := 10) (by decide) (by decide)]
  split
  · exact cg_u h 24 rfl
  · split
    · exact cg_sg (cg_u (cg_u h 24 rfl) 11 rfl)
    · exact cg_u (cg_u h 24 rfl) 11 rfl
theorem cg_monN {mm : Nat} (hP : inP P) (eT : ∀ i, 0 < i → i < 25 → T i = T2 i) (e3 : ∀ k, k < w → R3 k = S3 k) (e4 : ∀ k, k < w → R4 k = S4 k) (hw6 : w ≤ 6) (h : eqP P f F) : eqP P (rMonN T R3 R4 w mm f) (rMonN T2 S3 S4 w mm F) := cg_u (cg_tail hP eT e3 e4 hw6 (cg_tax hP (eT 8 (by decide) (by decide)) h)) 24 rfl
theorem cg_monP {due : Int32} {ck q5 it mm : Nat} (hP : inP P) (hd : due = -1 ∨ ∃ k, k < w ∧ due = nI k) (hw6 : w ≤ 6) (hq : q ≤ 9) (eT : ∀ i, 0 < i → i < 25 → T i = T2 i) (e3 : ∀ k, k < w → R3 k = S3 k) (e4 : ∀ k, k < w → R4 k = S4 k) (e0 : C 0 = C2 0) (e1 : C 1 = C2 1) (eb : C 4 = C2 4) (h : eqP P f F) (hg : ∀ j, j < 6 → g j = G j) : eqP P (rMonP T R3 R4 C due q ck q5 it w mm f g) (rMonP T2 S3 S4 C2 due q ck q5 it w mm F G) ∧ ∀ j, j < 6 → rMonG T R3 C due q ck w mm f g j = rMonG T2 S3 C2 due q ck w mm F G j := by
  have h1 := cg_und (ck := ck) (mm := nI mm) hP hd hw6 hq eT e3 e0 e1 eb (cg_tax hP (eT 8 (by decide) (by decide)) h) hg
  exact ⟨cg_end hP (cg_tail hP eT e3 e4 hw6 h1.1), h1.2⟩
end CG
