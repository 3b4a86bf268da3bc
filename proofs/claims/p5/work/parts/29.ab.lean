/-! what both sides stand for: numbers (0 the tape's letters, 1 walls, 2 contracts, 3 images, 4 things, 5 the month), the tape, rows (0 the fault's place, 1 the refusals), images, the rows of all that is told and of how things stand (mo6) -/
abbrev AbS : Type := (Nat → Nat) × (Nat → Nat) × (Nat → Nat → Int32) × (Nat → (Nat → Nat) × Rw) × Rw
def sN (S : AbS) (i v : Nat) : AbS := ((fun j => if j = i then v else S.1 j), S.2)
def sT (S : AbS) (T : Nat → Nat) : AbS := (S.1, T, S.2.2)
def sR (S : AbS) (i : Nat) (f : Nat → Int32) : AbS := (S.1, S.2.1, (fun j => if j = i then f else S.2.2.1 j), S.2.2.2)
/-- a refusal is counted -/
def rfS (S : AbS) (i : Nat) : AbS := sR S 1 (upd (S.2.2.1 1) i (S.2.2.1 1 i + 1))
theorem rf_ok {rc R : Nat → Int32} {q : Nat} (h : ∀ i, i < 3 → rc i = R i) (hq : q < 3) : ∀ i, i < 3 → upd rc q (rc q + 1) i = upd R q (R q + 1) i := by
  intro i hi
  unfold upd
  split
  · rw [h q hq]
  · exact h i hi
/-- what a call throws (0: nothing), answers, and leaves -/
abbrev AbR : Type := Int32 × Int32 × AbS
def sp_feed (S : AbS) (v1 v2 v3 v4 v5 : Int32) : AbR := if S.1 0 + 20 ≤ 500 then (0, nI (S.1 0 + 20), sT (sN S 0 (S.1 0 + 20)) (pnT5 S.2.1 (S.1 0) v1 v2 v3 v4 v5)) else (0, -1, S)
/-- a siege's text is read: its fault, or the new siege -/
def sgF9 (S : AbS) (c : Nat × Nat) : AbS := sR (sN S 0 0) 0 (fun _ => nI c.2)
/-- rows laid anew -/
def sW (S : AbS) (R : Rw) : AbS := (S.1, S.2.1, S.2.2.1, S.2.2.2.1, R)
def sgR9 (L : List (Nat × List Nat)) (R : Rw) : Rw := fun i => if i = 2 then mtF L 0 tnA else if i = 3 then fdT L 0 (fun _ => 0) else if i = 4 then fdM L 0 (fun _ => 0) else if i = 5 then bgA (fdW L 0) (mtF L 0 tnA) (fdT L 0 (fun _ => 0)) else if i = 30 ∨ i = 31 then fun _ => 0 else R i
def sgN9 (S : AbS) (L : List (Nat × List Nat)) : AbS := sW (sR (sN (sN (sN (sN (sN (sN S 0 0) 1 (fdW L 0)) 2 0) 3 0) 4 0) 5 0) 0 (fun _ => -1)) (sgR9 L S.2.2.2.2)
def sgS (S : AbS) (X : Option (Nat × Nat) × List (Nat × List Nat)) : AbR :=
  match X.1 with
  | some c => (0, nI c.1 - 10, sgF9 S c)
  | none => (0, nI (fdW X.2 0), sgN9 S X.2)
def sp_siege (S : AbS) (x : Int32) : AbR := if he_within x 0 (nI (S.1 0)) = 0 then (1, 0, rfS S 2) else sgS S (txP S.2.1 x.toNatClampNeg wl6 bd6 fl6 61 0 0 0)
def ctR9 (nt : Nat) (L : List (Nat × List Nat)) (R : Rw) : Rw := fun i => if i = 10 + nt then ctC L else if i = 20 + nt then ctB L else R i
def ctN9 (S : AbS) (L : List (Nat × List Nat)) : AbS := sW (sR (sN (sN S 0 0) 2 (S.1 2 + 1)) 0 (fun _ => -1)) (ctR9 (S.1 2) L S.2.2.2.2)
def ctS (S : AbS) (X : Option (Nat × Nat) × List (Nat × List Nat)) : AbR :=
  match X.1 with
  | some c => (0, nI c.1 - 10, sgF9 S c)
  | none => (0, nI (S.1 2), ctN9 S X.2)
def ctF9 (S : AbS) : AbS := sR (sN S 0 0) 0 (fun _ => -1)
def sp_contract (S : AbS) (x : Int32) : AbR := if he_within x 0 (nI (S.1 0)) = 0 ∨ 200 < x then (1, 0, rfS S 2) else if S.1 2 = 6 then (0, -1, ctF9 S) else ctS S (txP S.2.1 x.toNatClampNeg wl5 (bd5 (S.1 1)) (fun b _ => fl5 b) 21 0 0 0)
def sp_fault (S : AbS) : AbR := (0, S.2.2.1 0 0, S)
def sp_told (S : AbS) (x : Int32) : AbR := if he_within x 0 4 = 0 then (1, 0, rfS S 2) else (0, (if x = 0 then nI (S.1 1) else if x = 1 then nI (S.1 2) else if x = 2 then nI (S.1 5) else if x = 3 then S.2.2.2.2 5 10 else S.2.2.2.2 5 11), S)
def sp_wall (S : AbS) (x y : Int32) : AbR := if he_within x 0 (nI (S.1 1) - 1) = 0 then (1, 0, rfS S 1) else if he_within y 0 3 = 0 then (2, 0, rfS S 2) else (0, (if y = 0 then S.2.2.2.2 3 (toN x) else if y = 1 then S.2.2.2.2 5 (12 + toN x) else if y = 2 then S.2.2.2.2 4 (toN x) else S.2.2.2.2 5 (18 + toN x)), S)
def sp_rule (S : AbS) (x y : Int32) : AbR := if he_within x 0 (nI (S.1 2) - 1) = 0 then (1, 0, rfS S 0) else if he_within y 0 6 = 0 then (2, 0, rfS S 2) else (0, S.2.2.2.2 (10 + toN x) (toN y), S)
/-- what the enemy wants -/
def waA (R : Rw) (r k : Int32) : Int32 := R 2 13 * (10 - r) + R 2 14 * k
def sp_wants (S : AbS) (x y : Int32) : AbR := if he_within x 0 9 = 0 ∨ he_within y 0 99 = 0 then (1, 0, rfS S 2) else (0, waA S.2.2.2.2 x y, S)
def sp_sign (S : AbS) (x : Int32) : AbR := if ¬ x = -1 ∧ he_within x 0 (nI (S.1 2) - 1) = 0 then (1, 0, rfS S 0) else (0, S.2.2.2.2 5 10, sW S (rwU S.2.2.2.2 5 (sgF (S.2.2.2.2 5) x)))
def sp_months (S : AbS) (x : Int32) : AbR := if he_within x 1 120 = 0 then (1, 0, rfS S 2) else (0, nI (min x.toNatClampNeg (120 - S.1 5)), sW (sN S 5 (S.1 5 + min x.toNatClampNeg (120 - S.1 5))) (aMs S.2.2.2.2 (S.1 1) (S.1 5) (min x.toNatClampNeg (120 - S.1 5))))
def unA (R : Rw) (mm n : Nat) : Rw := fun i => if i = 5 ∧ 0 < min n mm then R (40 + (mm - min n mm)) else R i
def sp_undo (S : AbS) (x : Int32) : AbR := if he_within x 1 120 = 0 then (1, 0, rfS S 2) else (0, nI (min x.toNatClampNeg (S.1 5)), sW (sN S 5 (S.1 5 - min x.toNatClampNeg (S.1 5))) (unA S.2.2.2.2 (S.1 5) x.toNatClampNeg))
def sp_sums (S : AbS) (x : Int32) : AbR := if he_within x 0 9 = 0 then (1, 0, rfS S 2) else (0, S.2.2.2.2 5 (toN x), S)
def sp_corks (S : AbS) (x y : Int32) : AbR := if he_within y 0 (nI (S.1 1) - 1) = 0 then (1, 0, rfS S 1) else if he_within x 0 119 = 0 then (2, 0, rfS S 2) else (0, (if toN x < S.1 5 then S.2.2.2.2 (200 + toN x) (toN y) else 0), S)
def sp_would (S : AbS) (x y z : Int32) : AbR := if ¬ x = -1 ∧ he_within x 0 (nI (S.1 2) - 1) = 0 then (1, 0, rfS S 0) else if he_within y 1 60 = 0 ∨ he_within z 0 9 = 0 then (2, 0, rfS S 2) else (0, 0, S)
def sp_best (S : AbS) (x y : Int32) : AbR := if he_within x 1 60 = 0 ∨ he_within y 0 1 = 0 then (1, 0, rfS S 2) else (0, 0, S)
def sp_offer (S : AbS) (x y : Int32) : AbR := if he_within x 1 60 = 0 ∨ he_within y 0 3 = 0 then (1, 0, rfS S 2) else (0, 0, S)
/-- how near for so much: the first r from n on -/
def neA (R : Rw) (p k : Int32) : Nat → Nat → Int32
  | 0, _ => -1
  | f + 1, r => if waA R (nI r) k ≤ p then nI r else neA R p k f (r + 1)
def sp_nearest (S : AbS) (x y : Int32) : AbR := if he_within x 0 9999 = 0 ∨ he_within y 0 99 = 0 then (1, 0, rfS S 2) else (0, neA S.2.2.2.2 x y 10 0, S)
def sp_stop (S : AbS) (x y : Int32) : AbR := if he_within x 1 60 = 0 ∨ he_within y 0 1 = 0 then (1, 0, rfS S 2) else (0, 0, S)
def sp_odds (S : AbS) (x y : Int32) : AbR := if he_within x 1 99 = 0 ∨ he_within y 1 99 = 0 then (1, 0, rfS S 2) else (0, 0, sN S 4 0)
def sp_kind (S : AbS) (x y z : Int32) : AbR := if he_within x 0 3 = 0 ∨ he_within y 1 16 = 0 ∨ he_within z 1 16 = 0 then (1, 0, rfS S 2) else (0, 0, S)
/-- one thing more is seen -/
def thS (S : AbS) : AbR := if S.1 4 < 12 then (0, nI (S.1 4 + 1), sN S 4 (S.1 4 + 1)) else (0, -1, S)
def sp_seen (S : AbS) (x : Int32) : AbR := if he_within x 0 3 = 0 then (1, 0, rfS S 2) else thS S
def sp_spy (S : AbS) (b x : Int32) : AbR := if he_within x 1 15 = 0 then (1, 0, rfS S 2) else thS S
def sp_believed (S : AbS) (x : Int32) : AbR := if he_within x 0 1 = 0 then (1, 0, rfS S 2) else (0, 0, S)
/-- the strengths of the walls, how many of them are the first -/
def stS (S : AbS) (k : Nat) : Nat := if k < S.1 1 then toN (S.2.2.2.2 3 k) else 0
def wv (S : AbS) : Nat := if 3 < S.1 1 then 3 else S.1 1
def sp_earnest (S : AbS) (x y z : Int32) : AbR := if he_within x 0 6 = 0 ∨ he_within y 0 6 = 0 ∨ he_within z 0 1 = 0 then (1, 0, rfS S 2) else (0, (if z = 0 then nI (leN (foC (stS S) (allN (wv S)) (toN x) (toN y))) else nI (moC (stS S) (allN (wv S)) (toN x) (toN y))), S)
def sp_stands (S : AbS) (x y : Int32) : AbR := if he_within x 0 6 = 0 ∨ he_within y 0 6 = 0 then (1, 0, rfS S 2) else (0, nI (dsN (dgt (roN (foC (stS S) (allN (wv S)) (toN x) (toN y)))) (wv S)), S)
def sp_show (S : AbS) (x y : Int32) : AbR := if he_within x 0 6 = 0 ∨ he_within y 0 6 = 0 then (1, 0, rfS S 2) else (0, nI (shC (stS S) (wv S) (toN x) (toN y) (wv S)), S)
def sp_offers (S : AbS) (x y z : Int32) : AbR := if he_within x 1 2 = 0 ∨ he_within y 0 11 = 0 ∨ he_within z 0 999 = 0 then (1, 0, rfS S 2) else (0, S.2.2.2.2 (29 + toN x) (toN y), sW S (rwU S.2.2.2.2 (29 + toN x) (upd (S.2.2.2.2 (29 + toN x)) (toN y) z)))
def sp_most (S : AbS) : AbR := (0, nI (bestN (rsN (oA S.2.2.2.2) 12) 0 3), S)
def sp_serves (S : AbS) (x : Int32) : AbR := if he_within x 0 11 = 0 then (1, 0, rfS S 2) else (0, nI (svN (oA S.2.2.2.2) (toN x + 1)), S)
/-- an image is kept; the last one is given back -/
def imS (S : AbS) : AbS := ((fun i => if i = 3 then S.1 3 + 1 else S.1 i), S.2.1, S.2.2.1, (fun j => if j = S.1 3 then (S.1, S.2.2.2.2) else S.2.2.2.1 j), S.2.2.2.2)
/-- what an image gives back -/
def rsR (J R : Rw) : Rw := fun i => if i = 5 ∨ i = 30 ∨ i = 31 ∨ 40 ≤ i then J i else R i
def rsS (S : AbS) : AbS := sW (sN (sN (sN S 3 (S.1 3 - 1)) 4 ((S.2.2.2.1 (S.1 3 - 1)).1 4)) 5 ((S.2.2.2.1 (S.1 3 - 1)).1 5)) (rsR (S.2.2.2.1 (S.1 3 - 1)).2 S.2.2.2.2)
theorem imS_at {S : AbS} {n : Nat} (h : S.1 3 = n) : (imS S).2.2.2.1 n = (S.1, S.2.2.2.2) := by unfold imS; exact if_pos h.symm
theorem imS_ne {S : AbS} {n j : Nat} (h : S.1 3 = n) (hj : ¬ j = n) : (imS S).2.2.2.1 j = S.2.2.2.1 j := by unfold imS; exact if_neg (by rw [h]; exact hj)
def sp_image (S : AbS) : AbR := if S.1 3 = 3 then (0, -1, S) else (0, nI (S.1 3 + 1), imS S)
def sp_restore (S : AbS) : AbR := if S.1 3 = 0 then (0, -1, S) else (0, nI (S.1 3 - 1), rsS S)
def sp_status (S : AbS) (x : Int32) : AbR := if he_within x 0 2 = 0 then (0, -1, S) else (0, S.2.2.1 1 x.toNatClampNeg, S)
def sp_count (S : AbS) (x : Int32) : AbR := if x = 0 then (0, nI (S.1 3), S) else if x = 1 then (0, nI (S.1 0), S) else if x = 2 then (0, nI (S.1 4), S) else (0, -1, S)
theorem pt_okE {T : Nat → Nat} {f : Nat → Int32} {k : Nat} (v1 v2 v3 v4 v5 : Int32) (h : ∀ j, j < k → T j < 256 ∧ f j = sbI (T j)) : ∀ j, j < k + 20 → pnT5 T k v1 v2 v3 v4 v5 j < 256 ∧ ptT5 f k v1 v2 v3 v4 v5 j = sbI (pnT5 T k v1 v2 v3 v4 v5 j) := pt_ok5 h
theorem pn_ltE {T : Nat → Nat} {k j : Nat} (v1 v2 v3 v4 v5 : Int32) (h : ∀ j, j < k → T j < 256) (hj : j < k + 20) : pnT5 T k v1 v2 v3 v4 v5 j < 256 := pn_lt h hj
