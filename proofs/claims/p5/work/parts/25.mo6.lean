/-! rows that both sides stand for: 2 what the siege's text says, 3 strengths, 4 what is mended, 5 how things stand, 10 .. contracts, 20 .. their breaches, 30, 31 offers, 40 .. the months gone, 200 .. the corks led -/
abbrev Rw : Type := Nat → Nat → Int32
def toN (x : Int32) : Nat := x.toNatClampNeg
theorem toN_I {n : Nat} (h : n < 2147483648) : toN (nI n) = n := nI_clamp h
def aMon (R : Rw) (w mm : Nat) : Nat → Int32 := if R 5 10 = -1 then rMonN (R 2) (R 3) (R 4) w mm (R 5) else rMonP (R 2) (R 3) (R 4) (R (10 + toN (R 5 10))) (R (20 + toN (R 5 10)) (toN (R 5 11))) (toN (R (10 + toN (R 5 10)) 2)) (toN (R (10 + toN (R 5 10)) 3)) (toN (R (10 + toN (R 5 10)) 5)) (toN (R 5 11)) w mm (R 5) (fun _ => 0)
def aMonG (R : Rw) (w mm : Nat) : Nat → Int32 := if R 5 10 = -1 then fun _ => 0 else rMonG (R 2) (R 3) (R (10 + toN (R 5 10))) (R (20 + toN (R 5 10)) (toN (R 5 11))) (toN (R (10 + toN (R 5 10)) 2)) (toN (R (10 + toN (R 5 10)) 3)) w mm (R 5) (fun _ => 0)
def aM1 (R : Rw) (w mm : Nat) : Rw := fun i => if i = 5 then aMon R w mm else if i = 40 + mm then R 5 else if i = 200 + mm then aMonG R w mm else R i
def aMs (R : Rw) (w mm : Nat) : Nat → Rw
  | 0 => R
  | j + 1 => aM1 (aMs R w mm j) w (mm + j)
theorem aMs_n {R : Rw} {w mm i : Nat} (h5 : i ≠ 5) (h : i < 40) : ∀ j, aMs R w mm j i = R i
  | 0 => rfl
  | j + 1 => by
    show aM1 (aMs R w mm j) w (mm + j) i = _
    unfold aM1
    rw [if_neg h5, if_neg (by omega), if_neg (by omega)]
    exact aMs_n h5 h j
/-- a row of how things stood in month m: none in force, or one that is told, within its till -/
def nowG (R : Rw) (nt m : Nat) (F : Nat → Int32) : Prop := (F 10 = -1 ∧ F 11 = -1) ∨ ∃ c it, c < nt ∧ F 10 = nI c ∧ F 11 = nI it ∧ it ≤ m ∧ it < toN (R (10 + c) 5)
/-- the class's row of it -/
def nowC (m : Nat) (f F : Nat → Int32) : Prop := eqP nP f F ∧ ((F 10 = -1 ∧ F 11 = -1) ∨ (¬ F 10 = -1 ∧ ∃ it sg, F 11 = nI it ∧ f 11 = nI sg ∧ sg + it = m))
/-- a contract's bounds -/
def conG (w : Nat) (C B : Nat → Int32) : Prop := (∃ q, q ≤ 9 ∧ C 2 = nI q) ∧ (∃ q, q ≤ 99 ∧ C 3 = nI q) ∧ (∃ q, 1 ≤ q ∧ q ≤ 36 ∧ C 5 = nI q) ∧ bdC C ∧ ∀ m, m < 36 → B m = -1 ∨ ∃ k, k < w ∧ B m = nI k
/-- all bounds -/
def okA (w nt mm : Nat) (R : Rw) : Prop := w ≤ 6 ∧ nt ≤ 6 ∧ mm ≤ 120 ∧ bdT (R 2) ∧ (∀ k, k < w → ∃ a, a ≤ 50 ∧ R 4 k = nI a) ∧ bdF w (R 3) (R 5) ∧ nowG R nt mm (R 5) ∧ (∀ c, c < nt → conG w (R (10 + c)) (R (20 + c))) ∧ ∀ t, t < mm → bdF w (R 3) (R (40 + t)) ∧ nowG R nt t (R (40 + t))
theorem tn_nI {n : Nat} (h : n < 2147483648) : (nI n).toNatClampNeg = n := by
  show (Int32.ofNat n).toInt.toNat = n
  rw [Int32.toInt_ofNat_of_lt (by omega)]
  exact Int.toNat_natCast n
theorem nI_j {a b : Nat} (ha : a < 2147483648) (hb : b < 2147483648) (h : nI a = nI b) : a = b := by
  have := tn_nI ha
  rw [h, tn_nI hb] at this
  exact this.symm
section AM
variable {R : Rw} {w nt mm : Nat}
theorem mp_now {T R3 R4 C f g : Nat → Int32} {due : Int32} {q ck q5 it ci : Nat} (hd : due = -1 ∨ ∃ k, k < w ∧ due = nI k) (hw6 : w ≤ 6) (h10 : f 10 = nI ci) (h11 : f 11 = nI it) (hci : ci < 7) (hiq : it < q5) : (rMonP T R3 R4 C due q ck q5 it w mm f g 10 = -1 ∧ rMonP T R3 R4 C due q ck q5 it w mm f g 11 = -1) ∨ (rMonP T R3 R4 C due q ck q5 it w mm f g 10 = nI ci ∧ rMonP T R3 R4 C due q ck q5 it w mm f g 11 = nI (it + 1) ∧ it + 1 < q5) := by
  have ht10 : rTax T f 10 = nI ci := (mvF_n _ _ _ _ _ (by decide) (by decide)).trans h10
  have ht11 : rTax T f 11 = nI it := (mvF_n _ _ _ _ _ (by decide) (by decide)).trans h11
  have hk := k_tail (T := T) (R3 := R3) (R4 := R4) (f := rUnd T R3 C due q ck w (nI mm) (rTax T f) g) hw6
  unfold rMonP rEnd
  by_cases e : rTail T R3 R4 w (rUnd T R3 C due q ck w (nI mm) (rTax T f) g) 10 = -1
  · left
    rw [if_pos e]
    refine ⟨by rw [upd_n (by decide)]; exact e, ?_⟩
    rw [upd_n (by decide), hk.2.1]
    have e2 := hk.1.symm.trans e
    unfold rUnd at e2 ⊢
    split
    · unfold sgF; rw [upd_s, if_pos rfl]
    · rename_i c
      rw [if_neg c, (k_shF (k_shN hd hw6)).1, mvF_n _ _ _ _ _ (by decide) (by decide), ht10] at e2
      exact absurd e2 (nI_nm1 (by omega))
  · rw [if_neg e]
    have e10 := und_10 hd hw6 ht10 (fun h9 => e (hk.1.trans h9))
    by_cases c : it + 1 = q5
    · left
      rw [if_pos c]
      exact ⟨sgF_10 _ _, by unfold sgF; rw [upd_s, if_pos rfl]⟩
    · right
      rw [if_neg c]
      exact ⟨by rw [upd_n (by decide), upd_n (by decide)]; exact hk.1.trans e10, upd_s, by omega⟩
theorem mn_now {T R3 R4 f : Nat → Int32} (hw6 : w ≤ 6) : kpP f (rTail T R3 R4 w (rTax T f)) := kp_t (kp_m (kp_r _) _ (by decide) (by decide)) (k_tail hw6)
theorem aM_n {i : Nat} (h5 : i ≠ 5) (h : i < 40) : aM1 R w mm i = R i := by
  unfold aM1
  rw [if_neg h5, if_neg (by omega), if_neg (by omega)]
theorem nowG_c {R2 : Rw} {F : Nat → Int32} {m m2 : Nat} (h : nowG R nt m F) (he : ∀ c, c < nt → R2 (10 + c) = R (10 + c)) (hm : m ≤ m2) : nowG R2 nt m2 F := by
  rcases h with h | ⟨c, it, h1, h2, h3, h4, h5⟩
  · exact Or.inl h
  · exact Or.inr ⟨c, it, h1, h2, h3, by omega, by rw [he c h1]; exact h5⟩
/-- a month more keeps the bounds -/
theorem ok_m1 (h : okA w nt mm R) (hm : mm < 120) : okA w nt (mm + 1) (aM1 R w mm) := by
  obtain ⟨hw, hn, -, hT, h4, hF, hN, hC, hG⟩ := h
  have h10 : ∀ c, c < nt → aM1 R w mm (10 + c) = R (10 + c) := fun c hc => aM_n (by omega) (by omega)
  have h20 : ∀ c, c < nt → aM1 R w mm (20 + c) = R (20 + c) := fun c hc => aM_n (by omega) (by omega)
  have e5 : aM1 R w mm 5 = aMon R w mm := if_pos rfl
  unfold okA
  rw [aM_n (i := 2) (by decide) (by decide), aM_n (i := 3) (by decide) (by decide), aM_n (i := 4) (by decide) (by decide), e5]
  have main : bdF w (R 3) (aMon R w mm) ∧ nowG (aM1 R w mm) nt (mm + 1) (aMon R w mm) := by
    unfold aMon
    rcases hN with ⟨a, b⟩ | ⟨c, it, h1, h2, h3, h9, h5⟩
    · rw [if_pos a]
      refine ⟨bd_monN hT h4 hw hF, Or.inl ?_⟩
      have hk := mn_now (T := R 2) (R3 := R 3) (R4 := R 4) (f := R 5) hw
      exact ⟨by unfold rMonN; rw [upd_n (by decide), hk.1]; exact a, by unfold rMonN; rw [upd_n (by decide), hk.2.1]; exact b⟩
    · obtain ⟨⟨q, hq, eq⟩, ⟨ck, hck, eck⟩, ⟨q5, hq1, hq36, eq5⟩, hb, hB⟩ := hC c h1
      rw [eq5, toN_I (by omega)] at h5
      rw [h2, if_neg (nI_nm1 (by omega)), toN_I (by omega), h3, toN_I (by omega), eq, toN_I (by omega), eck, toN_I (by omega), eq5, toN_I (by omega)]
      have hd := hB it (by omega)
      refine ⟨bd_monP hd hT h4 hb (by omega) hw hF, ?_⟩
      rcases mp_now (T := R 2) (R3 := R 3) (R4 := R 4) (C := R (10 + c)) (q := q) (ck := ck) (mm := mm) (g := fun _ => 0) hd hw h2 h3 (by omega) h5 with z | ⟨z1, z2, z3⟩
      · exact Or.inl z
      · exact Or.inr ⟨c, it + 1, h1, z1, z2, by omega, by rw [h10 c h1, eq5, toN_I (by omega)]; exact z3⟩
  refine ⟨hw, hn, by omega, hT, h4, main.1, main.2, fun c hc => by rw [h10 c hc, h20 c hc]; exact hC c hc, fun t ht => ?_⟩
  by_cases e : t = mm
  · subst e
    have eg : aM1 R w t (40 + t) = R 5 := by unfold aM1; rw [if_neg (by omega), if_pos rfl]
    rw [eg]
    exact ⟨hF, nowG_c hN h10 (Nat.le_refl _)⟩
  · have eg : aM1 R w mm (40 + t) = R (40 + t) := by unfold aM1; rw [if_neg (by omega), if_neg (by omega), if_neg (by omega)]
    rw [eg]
    have := hG t (by omega)
    exact ⟨this.1, nowG_c this.2 h10 (Nat.le_refl _)⟩
theorem ok_ms (h : okA w nt mm R) : ∀ j, mm + j ≤ 120 → okA w nt (mm + j) (aMs R w mm j)
  | 0, _ => h
  | j + 1, hj => ok_m1 (ok_ms h j (by omega)) (show mm + j < 120 by omega)
end AM
