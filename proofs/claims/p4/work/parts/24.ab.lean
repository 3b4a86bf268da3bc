/-! what both sides stand for: numbers (0 the tape's letters, 1 walls, 2 contracts, 3 images, 4 things, 5 the month), the tape, rows (0 the fault's place, 1 the refusals), images -/
abbrev AbS : Type := (Nat → Nat) × (Nat → Nat) × (Nat → Nat → Int32) × (Nat → (Nat → Nat) × (Nat → Nat → Int32))
def sN (S : AbS) (i v : Nat) : AbS := ((fun j => if j = i then v else S.1 j), S.2)
def sT (S : AbS) (T : Nat → Nat) : AbS := (S.1, T, S.2.2)
def sR (S : AbS) (i : Nat) (f : Nat → Int32) : AbS := (S.1, S.2.1, (fun j => if j = i then f else S.2.2.1 j), S.2.2.2)
/-- a refusal is counted -/
def rfS (S : AbS) (i : Nat) : AbS := sR S 1 (upd (S.2.2.1 1) i (S.2.2.1 1 i + 1))
theorem rf_ok {rc R : Nat → Int32} {q : Nat} (h : ∀ i, i < 3 → rc i = R i) (hq : q < 3) : ∀ i, i < 3 → upd rc q (rc q + 1) i = upd R q (R q + 1) i := by
  intro i hi
  unfold upd
  split
  · rw [h q hq]
  · exact h i hi
theorem tn_nI {n : Nat} (h : n < 2147483648) : (nI n).toNatClampNeg = n := by
  show (Int32.ofNat n).toInt.toNat = n
  rw [Int32.toInt_ofNat_of_lt (by omega)]
  exact Int.toNat_natCast n
theorem nI_j {a b : Nat} (ha : a < 2147483648) (hb : b < 2147483648) (h : nI a = nI b) : a = b := by
  have := tn_nI ha
  rw [h, tn_nI hb] at this
  exact this.symm
/-- what a call throws (0: nothing), answers, and leaves -/
abbrev AbR : Type := Int32 × Int32 × AbS
def sp_feed (S : AbS) (v1 v2 v3 v4 v5 : Int32) : AbR := if S.1 0 + 20 ≤ 500 then (0, nI (S.1 0 + 20), sT (sN S 0 (S.1 0 + 20)) (pnT5 S.2.1 (S.1 0) v1 v2 v3 v4 v5)) else (0, -1, S)
/-- a siege's text is read: its fault, or the new siege -/
def sgF9 (S : AbS) (c : Nat × Nat) : AbS := sR (sN S 0 0) 0 (fun _ => nI c.2)
def sgN9 (S : AbS) (w : Nat) : AbS := sR (sN (sN (sN (sN (sN (sN S 0 0) 1 w) 2 0) 3 0) 4 0) 5 0) 0 (fun _ => -1)
def sgS (S : AbS) (X : Option (Nat × Nat) × List (Nat × List Nat)) : AbR :=
  match X.1 with
  | some c => (0, nI c.1 - 10, sgF9 S c)
  | none => (0, nI (fdW X.2 0), sgN9 S (fdW X.2 0))
def sp_siege (S : AbS) (x : Int32) : AbR := if he_within x 0 (nI (S.1 0)) = 0 then (1, 0, rfS S 2) else sgS S (txP S.2.1 x.toNatClampNeg wl6 bd6 fl6 61 0 0 0)
def ctN9 (S : AbS) : AbS := sR (sN (sN S 0 0) 2 (S.1 2 + 1)) 0 (fun _ => -1)
def ctS (S : AbS) (X : Option (Nat × Nat) × List (Nat × List Nat)) : AbR :=
  match X.1 with
  | some c => (0, nI c.1 - 10, sgF9 S c)
  | none => (0, nI (S.1 2), ctN9 S)
def ctF9 (S : AbS) : AbS := sR (sN S 0 0) 0 (fun _ => -1)
def sp_contract (S : AbS) (x : Int32) : AbR := if he_within x 0 (nI (S.1 0)) = 0 ∨ 200 < x then (1, 0, rfS S 2) else if S.1 2 = 6 then (0, -1, ctF9 S) else ctS S (txP S.2.1 x.toNatClampNeg wl5 (bd5 (S.1 1)) (fun b _ => fl5 b) 21 0 0 0)
def sp_fault (S : AbS) : AbR := (0, S.2.2.1 0 0, S)
def sp_told (S : AbS) (x : Int32) : AbR := if he_within x 0 4 = 0 then (1, 0, rfS S 2) else (0, 0, S)
def sp_wall (S : AbS) (x y : Int32) : AbR := if he_within x 0 (nI (S.1 1) - 1) = 0 then (1, 0, rfS S 1) else if he_within y 0 3 = 0 then (2, 0, rfS S 2) else (0, 0, S)
def sp_rule (S : AbS) (x y : Int32) : AbR := if he_within x 0 (nI (S.1 2) - 1) = 0 then (1, 0, rfS S 0) else if he_within y 0 6 = 0 then (2, 0, rfS S 2) else (0, 0, S)
def sp_wants (S : AbS) (x y : Int32) : AbR := if he_within x 0 9 = 0 ∨ he_within y 0 99 = 0 then (1, 0, rfS S 2) else (0, 0, S)
def sp_sign (S : AbS) (x : Int32) : AbR := if ¬ x = -1 ∧ he_within x 0 (nI (S.1 2) - 1) = 0 then (1, 0, rfS S 0) else (0, 0, S)
def sp_months (S : AbS) (x : Int32) : AbR := if he_within x 1 120 = 0 then (1, 0, rfS S 2) else (0, nI (min x.toNatClampNeg (120 - S.1 5)), sN S 5 (S.1 5 + min x.toNatClampNeg (120 - S.1 5)))
def sp_undo (S : AbS) (x : Int32) : AbR := if he_within x 1 120 = 0 then (1, 0, rfS S 2) else (0, nI (min x.toNatClampNeg (S.1 5)), sN S 5 (S.1 5 - min x.toNatClampNeg (S.1 5)))
def sp_sums (S : AbS) (x : Int32) : AbR := if he_within x 0 9 = 0 then (1, 0, rfS S 2) else (0, 0, S)
def sp_corks (S : AbS) (x y : Int32) : AbR := if he_within y 0 (nI (S.1 1) - 1) = 0 then (1, 0, rfS S 1) else if he_within x 0 119 = 0 then (2, 0, rfS S 2) else (0, 0, S)
def sp_would (S : AbS) (x y z : Int32) : AbR := if ¬ x = -1 ∧ he_within x 0 (nI (S.1 2) - 1) = 0 then (1, 0, rfS S 0) else if he_within y 1 60 = 0 ∨ he_within z 0 9 = 0 then (2, 0, rfS S 2) else (0, 0, S)
def sp_best (S : AbS) (x y : Int32) : AbR := if he_within x 1 60 = 0 ∨ he_within y 0 1 = 0 then (1, 0, rfS S 2) else (0, 0, S)
def sp_offer (S : AbS) (x y : Int32) : AbR := if he_within x 1 60 = 0 ∨ he_within y 0 3 = 0 then (1, 0, rfS S 2) else (0, 0, S)
def sp_nearest (S : AbS) (x y : Int32) : AbR := if he_within x 0 9999 = 0 ∨ he_within y 0 99 = 0 then (1, 0, rfS S 2) else (0, 0, S)
def sp_stop (S : AbS) (x y : Int32) : AbR := if he_within x 1 60 = 0 ∨ he_within y 0 1 = 0 then (1, 0, rfS S 2) else (0, 0, S)
def sp_odds (S : AbS) (x y : Int32) : AbR := if he_within x 1 99 = 0 ∨ he_within y 1 99 = 0 then (1, 0, rfS S 2) else (0, 0, sN S 4 0)
def sp_kind (S : AbS) (x y z : Int32) : AbR := if he_within x 0 3 = 0 ∨ he_within y 1 16 = 0 ∨ he_within z 1 16 = 0 then (1, 0, rfS S 2) else (0, 0, S)
/-- one thing more is seen -/
def thS (S : AbS) : AbR := if S.1 4 < 12 then (0, nI (S.1 4 + 1), sN S 4 (S.1 4 + 1)) else (0, -1, S)
def sp_seen (S : AbS) (x : Int32) : AbR := if he_within x 0 3 = 0 then (1, 0, rfS S 2) else thS S
def sp_spy (S : AbS) (b x : Int32) : AbR := if he_within x 1 15 = 0 then (1, 0, rfS S 2) else thS S
def sp_believed (S : AbS) (x : Int32) : AbR := if he_within x 0 1 = 0 then (1, 0, rfS S 2) else (0, 0, S)
def sp_earnest (S : AbS) (x y z : Int32) : AbR := if he_within x 0 6 = 0 ∨ he_within y 0 6 = 0 ∨ he_within z 0 1 = 0 then (1, 0, rfS S 2) else (0, 0, S)
def sp_stands (S : AbS) (x y : Int32) : AbR := if he_within x 0 6 = 0 ∨ he_within y 0 6 = 0 then (1, 0, rfS S 2) else (0, 0, S)
def sp_show (S : AbS) (x y : Int32) : AbR := if he_within x 0 6 = 0 ∨ he_within y 0 6 = 0 then (1, 0, rfS S 2) else (0, 0, S)
def sp_offers (S : AbS) (x y z : Int32) : AbR := if he_within x 1 2 = 0 ∨ he_within y 0 11 = 0 ∨ he_within z 0 999 = 0 then (1, 0, rfS S 2) else (0, 0, S)
def sp_most (S : AbS) : AbR := (0, 0, S)
def sp_serves (S : AbS) (x : Int32) : AbR := if he_within x 0 11 = 0 then (1, 0, rfS S 2) else (0, 0, S)
/-- an image is kept; the last one is given back -/
def imS (S : AbS) : AbS := ((fun i => if i = 3 then S.1 3 + 1 else S.1 i), S.2.1, S.2.2.1, fun j => if j = S.1 3 then (S.1, S.2.2.1) else S.2.2.2 j)
def rsS (S : AbS) : AbS := sN (sN (sN S 3 (S.1 3 - 1)) 4 ((S.2.2.2 (S.1 3 - 1)).1 4)) 5 ((S.2.2.2 (S.1 3 - 1)).1 5)
theorem imS_at {S : AbS} {n : Nat} (h : S.1 3 = n) : (imS S).2.2.2 n = (S.1, S.2.2.1) := by unfold imS; exact if_pos h.symm
theorem imS_ne {S : AbS} {n j : Nat} (h : S.1 3 = n) (hj : ¬ j = n) : (imS S).2.2.2 j = S.2.2.2 j := by unfold imS; exact if_neg (by rw [h]; exact hj)
def sp_image (S : AbS) : AbR := if S.1 3 = 3 then (0, -1, S) else (0, nI (S.1 3 + 1), imS S)
def sp_restore (S : AbS) : AbR := if S.1 3 = 0 then (0, -1, S) else (0, nI (S.1 3 - 1), rsS S)
def sp_status (S : AbS) (x : Int32) : AbR := if he_within x 0 2 = 0 then (0, -1, S) else (0, S.2.2.1 1 x.toNatClampNeg, S)
def sp_count (S : AbS) (x : Int32) : AbR := if x = 0 then (0, nI (S.1 3), S) else if x = 1 then (0, nI (S.1 0), S) else if x = 2 then (0, nI (S.1 4), S) else (0, -1, S)
theorem pt_okE {T : Nat → Nat} {f : Nat → Int32} {k : Nat} (v1 v2 v3 v4 v5 : Int32) (h : ∀ j, j < k → T j < 256 ∧ f j = sbI (T j)) : ∀ j, j < k + 20 → pnT5 T k v1 v2 v3 v4 v5 j < 256 ∧ ptT5 f k v1 v2 v3 v4 v5 j = sbI (pnT5 T k v1 v2 v3 v4 v5 j) := pt_ok5 h
theorem pn_ltE {T : Nat → Nat} {k j : Nat} (v1 v2 v3 v4 v5 : Int32) (h : ∀ j, j < k → T j < 256) (hj : j < k + 20) : pnT5 T k v1 v2 v3 v4 v5 j < 256 := pn_lt h hj
