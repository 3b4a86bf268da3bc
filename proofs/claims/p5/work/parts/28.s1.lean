/-! sums by places, folds over the rows in their order -/
def sP (f : Nat → Nat) : Nat → Nat
  | 0 => 0
  | k + 1 => sP f k + f k
theorem sP_3 (f : Nat → Nat) : sP f 3 = s3 f := by
  show 0 + f 0 + f 1 + f 2 = f 0 + f 1 + f 2
  rw [Nat.zero_add]
theorem sP_y {f : Nat → Nat} {j a v : Nat} (h : a = sP f j) (hv : f j = v) : a + v = sP f (j + 1) := by
  rw [sP, hv, h]
theorem sP_n {f : Nat → Nat} {j a : Nat} (h : a = sP f j) (hv : f j = 0) : a = sP f (j + 1) := by
  rw [sP, hv, Nat.add_zero]
  exact h
theorem sP_e {f : Nat → Nat} {j a : Nat} (h : a = sP f j) (h1 : j ≤ 3) (h2 : ¬ j < 3) : a = s3 f := by
  have e : j = 3 := by omega
  rw [h, e]
  exact sP_3 f
/-- bits as numbers -/
def bI (an k : Nat) : Int32 := if bt an k = true then 1 else 0
theorem bI_e : ∀ an, an < 8 → ∀ k, k < 3 → ((nI an >>> (nI k &&& 31)) &&& 1) = bI an k := by decide +kernel
theorem bI_1 {an k : Nat} (h : bI an k = 1) : bt an k = true := by
  unfold bI at h
  split at h
  · assumption
  · exact absurd h (by decide)
theorem bI_n1 {an k : Nat} (h : ¬ bI an k = 1) : ¬ bt an k = true := fun h9 => h (by unfold bI; rw [if_pos h9])
theorem bI_n0 {an k : Nat} (h : ¬ bI an k = 0) : bt an k = true := by
  unfold bI at h
  split at h
  · assumption
  · exact absurd rfl h
theorem bI_0 {an k : Nat} (h : bI an k = 0) : ¬ bt an k = true := fun h9 => by
  unfold bI at h
  rw [if_pos h9] at h
  exact absurd h (by decide)
theorem sb_iff : ∀ s, s < 8 → ∀ an, an < 8 → ((nI s &&& (nI an ^^^ (-1))) = 0 ↔ subB s an = true) := by decide +kernel
theorem sub_k {s an k : Nat} (h : subB s an = true) (hk : k < 3) (c : bt s k = true) : bt an k = true := by
  rcases (show k = 0 ∨ k = 1 ∨ k = 2 by omega) with rfl | rfl | rfl
  · exact sub_0 h c
  · exact sub_1 h c
  · exact sub_2 h c
theorem sub_all : ∀ v, v ≤ 3 → ∀ s, s ≤ allN v → subB s (allN v) = true := by decide +kernel
theorem sub_beh : ∀ v, v ≤ 3 → ∀ s, s < 8 → allN v < s → subB s (allN v) = false := by decide +kernel
theorem bt_all : ∀ v, v ≤ 3 → ∀ k, k < 3 → bt (allN v) k = true → k < v := by decide +kernel
theorem bt_alY : ∀ v, v ≤ 3 → ∀ k, k < v → bt (allN v) k = true := by decide +kernel
/-- all but one -/
def rmN (an k : Nat) : Nat := if bt an k = true then an - 2 ^ k else an
theorem rm_e : ∀ an, an < 8 → ∀ k, k < 3 → (nI an &&& (((1 : Int32) <<< (nI k &&& 31)) ^^^ (-1))) = nI (rmN an k) := by decide +kernel
theorem rm_lt : ∀ an, an < 8 → ∀ k, k < 3 → rmN an k < 8 := by decide +kernel
theorem rm_sub : ∀ an, an < 8 → ∀ k, k < 3 → ∀ i, i < 3 → bt (rmN an k) i = true → bt an i = true := by decide +kernel
theorem or_e : ∀ k, k < 3 → ∀ x, x < 2 ^ k → (nI x ||| ((1 : Int32) <<< (nI k &&& 31))) = nI (x + 2 ^ k) := by decide +kernel
theorem mx_sub : ∀ a, a < 7 → ∀ b, b < 4 → (if (0 : Int32) < nI a - nI b then nI a - nI b else 0) = nI (a - b) := by decide +kernel
theorem mx_if {a b : Nat} (ha : a < 2147483648) (hb : b < 2147483648) : (if nI a < nI b then nI b else nI a) = nI (if a < b then b else a) := by
  by_cases c : a < b
  · rw [if_pos c, if_pos ((nI_ltI ha hb).mpr c)]
  · rw [if_neg c, if_neg (fun h9 => c ((nI_ltI ha hb).mp h9))]
theorem nI_div {a b : Nat} (ha : a < 2147483648) (hb : b < 2147483648) (h0 : 0 < b) : nI a / nI b = nI (a / b) := by
  rw [← Int32.toInt_inj, Int32.toInt_div_of_ne_left]
  · rw [nI_toInt ha, nI_toInt hb, nI_toInt (Nat.lt_of_le_of_lt (Nat.div_le_self a b) ha)]
    rw [Int.tdiv_eq_ediv_of_nonneg (by omega)]
    omega
  · intro h9
    have := congrArg Int32.toInt h9
    rw [nI_toInt ha] at this
    have e : Int32.minValue.toInt = -2147483648 := by decide
    omega
theorem dgD : ∀ r, r < 343 → nI r / 49 = nI (r / 49) := by decide +kernel
theorem dgE : ∀ r, r < 343 → (nI r / 7) - (nI r / 7) / 7 * 7 = nI (r / 7 % 7) := by decide +kernel
theorem dgF : ∀ r, r < 343 → nI r - nI r / 7 * 7 = nI (r % 7) := by decide +kernel
theorem w25 : ∀ a, a < 100 → nI a / 25 = nI (a / 25) := by decide +kernel
theorem dgt_le {r : Nat} (h : r < 343) (k : Nat) : dgt r k ≤ 6 := by
  unfold dgt
  split
  · omega
  · split <;> omega
/-- men stand at walls of the set alone -/
def plB (an : Nat) (ef : Nat → Nat) : Bool := (bt an 0 || ef 0 == 0) && (bt an 1 || ef 1 == 0) && (bt an 2 || ef 2 == 0)
def plI (an : Nat) (ef : Nat → Nat) : Int32 := if plB an ef = true then 1 else 0
theorem pl_t {an : Nat} {ef : Nat → Nat} (h : ∀ k, k < 3 → bt an k = true ∨ ef k = 0) : plI an ef = 1 := by
  unfold plI plB
  rw [if_pos]
  have h0 := h 0 (by decide)
  have h1 := h 1 (by decide)
  have h2 := h 2 (by decide)
  simp only [Bool.and_eq_true, Bool.or_eq_true, beq_iff_eq]
  exact ⟨⟨h0, h1⟩, h2⟩
theorem pl_f {an k : Nat} {ef : Nat → Nat} (hk : k < 3) (h1 : ¬ bt an k = true) (h2 : ¬ ef k = 0) : plI an ef = 0 := by
  unfold plI plB
  rw [if_neg]
  simp only [Bool.and_eq_true, Bool.or_eq_true, beq_iff_eq]
  rintro ⟨⟨a0, a1⟩, a2⟩
  rcases (show k = 0 ∨ k = 1 ∨ k = 2 by omega) with rfl | rfl | rfl
  · exact a0.elim h1 h2
  · exact a1.elim h1 h2
  · exact a2.elim h1 h2
theorem pl_s {an j : Nat} {ef : Nat → Nat} (h : ∀ k, k < j → bt an k = true ∨ ef k = 0) (hj : bt an j = true ∨ ef j = 0) : ∀ k, k < j + 1 → bt an k = true ∨ ef k = 0 := by
  intro k hk
  by_cases e : k = j
  · rw [e]; exact hj
  · exact h k (by omega)
theorem pl_pu {an n row : Nat} (hs : dgt row 0 + dgt row 1 + dgt row 2 = n) : puB row n an = plB an (dgt row) := by
  unfold puB plB
  have : (dgt row 0 + dgt row 1 + dgt row 2 == n) = true := beq_iff_eq.mpr hs
  rw [this, Bool.true_or, Bool.and_true]
theorem pu_y {an n row : Nat} (hs : dgt row 0 + dgt row 1 + dgt row 2 = n) (h : ¬ plI an (dgt row) = 0) : puB row n an = true := by
  rw [pl_pu hs]
  unfold plI at h
  split at h
  · assumption
  · exact absurd rfl h
theorem pu_n {an n row : Nat} (hs : dgt row 0 + dgt row 1 + dgt row 2 = n) (h : plI an (dgt row) = 0) : ¬ puB row n an = true := by
  rw [pl_pu hs]
  intro h9
  unfold plI at h
  rw [if_pos h9] at h
  exact absurd h (by decide)
/-- the row of three numbers of men -/
theorem rw3 {d x y : Nat} (hd : d ≤ 6) (hx : x ≤ d) (hy : y ≤ d - x) : dgt (49 * x + 7 * y + (d - x - y)) 0 = x ∧ dgt (49 * x + 7 * y + (d - x - y)) 1 = y ∧ dgt (49 * x + 7 * y + (d - x - y)) 2 = d - x - y ∧ 49 * x + 7 * y + (d - x - y) < 343 ∧ dgt (49 * x + 7 * y + (d - x - y)) 0 + dgt (49 * x + 7 * y + (d - x - y)) 1 + dgt (49 * x + 7 * y + (d - x - y)) 2 = d := by
  have e0 : dgt (49 * x + 7 * y + (d - x - y)) 0 = x := by unfold dgt; rw [if_pos rfl]; omega
  have e1 : dgt (49 * x + 7 * y + (d - x - y)) 1 = y := by unfold dgt; rw [if_neg (by decide), if_pos rfl, show (49 * x + 7 * y + (d - x - y)) / 7 = 7 * x + y by omega]; omega
  have e2 : dgt (49 * x + 7 * y + (d - x - y)) 2 = d - x - y := by unfold dgt; rw [if_neg (by decide), if_neg (by decide)]; omega
  exact ⟨e0, e1, e2, by omega, by rw [e0, e1, e2]; omega⟩
/-- digits to the base 10 -/
def dsN (ef : Nat → Nat) : Nat → Nat
  | 0 => 0
  | k + 1 => dsN ef k * 10 + ef k
theorem ds_0 : ∀ v, dsN (dgt 0) v = 0
  | 0 => rfl
  | k + 1 => by
    rw [dsN, ds_0 k]
    unfold dgt
    split
    · rfl
    · split <;> rfl
theorem ds_cg {e1 e2 : Nat → Nat} : ∀ v, v ≤ 3 → (∀ k, k < 3 → e1 k = e2 k) → dsN e1 v = dsN e2 v
  | 0, _, _ => rfl
  | v + 1, hv, h => by rw [dsN, dsN, ds_cg v (by omega) h, h v (by omega)]
/-- folds over the class's way -/
def inL (d an x n : Nat) : List Nat := ((List.range n).map (fun y => 49 * x + 7 * y + (d - x - y))).filter (fun r => puB r d an)
def preL (d an n : Nat) : List Nat := (List.range n).flatMap (fun x => inL d an x (d + 1 - x))
theorem pre_cl (d an : Nat) : preL d an (d + 1) = clL d an := rfl
def qF {B : Type} (f : B → Nat → B) (o : B) (d an x y : Nat) : B := (inL d an x y).foldl f ((preL d an x).foldl f o)
theorem qF_0 {B : Type} (f : B → Nat → B) (o : B) (d an : Nat) : qF f o d an 0 0 = o := rfl
theorem qF_x {B : Type} (f : B → Nat → B) (o : B) (d an x : Nat) : qF f o d an (x + 1) 0 = qF f o d an x (d + 1 - x) := by
  have e : preL d an (x + 1) = preL d an x ++ inL d an x (d + 1 - x) := by
    unfold preL
    rw [List.range_succ, List.flatMap_append, List.flatMap_singleton]
  show (preL d an (x + 1)).foldl f o = _
  rw [e, List.foldl_append]
  rfl
theorem qF_y {B : Type} (f : B → Nat → B) (o : B) (d an x y : Nat) : qF f o d an x (y + 1) = if puB (49 * x + 7 * y + (d - x - y)) d an = true then f (qF f o d an x y) (49 * x + 7 * y + (d - x - y)) else qF f o d an x y := by
  have e : inL d an x (y + 1) = inL d an x y ++ (if puB (49 * x + 7 * y + (d - x - y)) d an = true then [49 * x + 7 * y + (d - x - y)] else []) := by
    unfold inL
    rw [List.range_succ, List.map_append, List.filter_append]
    congr 1
    by_cases c : puB (49 * x + 7 * y + (d - x - y)) d an = true
    · rw [if_pos c]
      show List.filter _ [49 * x + 7 * y + (d - x - y)] = _
      rw [List.filter_cons_of_pos (by exact c), List.filter_nil]
    · rw [if_neg c]
      show List.filter _ [49 * x + 7 * y + (d - x - y)] = _
      rw [List.filter_cons_of_neg (by exact c), List.filter_nil]
  unfold qF
  rw [e, List.foldl_append]
  split
  · rfl
  · rfl
theorem qF_e {B : Type} (f : B → Nat → B) (o : B) (d an : Nat) : qF f o d an (d + 1) 0 = (clL d an).foldl f o := rfl
theorem qF_yy {B : Type} {f : B → Nat → B} {o : B} {d an x y : Nat} (h : puB (49 * x + 7 * y + (d - x - y)) d an = true) : qF f o d an x (y + 1) = f (qF f o d an x y) (49 * x + 7 * y + (d - x - y)) := by rw [qF_y, if_pos h]
theorem qF_yn {B : Type} {f : B → Nat → B} {o : B} {d an x y : Nat} (h : ¬ puB (49 * x + 7 * y + (d - x - y)) d an = true) : qF f o d an x (y + 1) = qF f o d an x y := by rw [qF_y, if_neg h]
/-- the first with the least -/
def stF (v : Nat → Nat) (o : Option (Nat × Nat)) (r : Nat) : Option (Nat × Nat) :=
  match o with
  | none => some (v r, r)
  | some x => if v r < x.1 then some (v r, r) else some x
def leI (o : Option (Nat × Nat)) : Int32 :=
  match o with
  | none => -1
  | some x => nI x.1
def leN (o : Option (Nat × Nat)) : Nat :=
  match o with
  | none => 0
  | some x => x.1
def roN (o : Option (Nat × Nat)) : Nat :=
  match o with
  | none => 0
  | some x => x.2
def boO (B : Nat) (o : Option (Nat × Nat)) : Prop := ∀ x, o = some x → x.1 ≤ B
theorem bo_n {B : Nat} : boO B none := fun x h => by cases h
theorem bo_s {B : Nat} {v : Nat → Nat} {o : Option (Nat × Nat)} {r : Nat} (h : boO B o) (hv : v r ≤ B) : boO B (stF v o r) := by
  intro x hx
  unfold stF at hx
  cases o with
  | none => cases hx; exact hv
  | some q =>
    have hq := h q rfl
    revert hx
    show (if v r < q.1 then some (v r, r) else some q) = some x → _
    split
    · intro hx; cases hx; exact hv
    · intro hx; cases hx; exact hq
theorem st_y {B : Nat} {v : Nat → Nat} {o : Option (Nat × Nat)} {r : Nat} (hb : boO B o) (hB : B < 2147483648) (hv : v r < 2147483648) (h : leI o = -1 ∨ ¬ leI o ≤ nI (v r)) : stF v o r = some (v r, r) := by
  cases o with
  | none => rfl
  | some q =>
    have hq : q.1 < 2147483648 := Nat.lt_of_le_of_lt (hb q rfl) hB
    show (if v r < q.1 then some (v r, r) else some q) = _
    rw [if_pos]
    rcases h with h | h
    · exact absurd h (nI_nm1 hq)
    · exact Nat.lt_of_not_le (fun h9 => h ((nI_leI hq hv).mpr h9))
theorem st_n {B : Nat} {v : Nat → Nat} {o : Option (Nat × Nat)} {r : Nat} (hb : boO B o) (hB : B < 2147483648) (hv : v r < 2147483648) (h1 : ¬ leI o = -1) (h2 : leI o ≤ nI (v r)) : stF v o r = o := by
  cases o with
  | none => exact absurd rfl h1
  | some q =>
    have hq : q.1 < 2147483648 := Nat.lt_of_le_of_lt (hb q rfl) hB
    show (if v r < q.1 then some (v r, r) else some q) = _
    rw [if_neg]
    have := (nI_leI hq hv).mp h2
    omega
theorem le_top {B : Nat} {o : Option (Nat × Nat)} (hb : boO B o) (hB : B < 2147483648) : (if leI o < 0 then 0 else leI o) = nI (leN o) := by
  cases o with
  | none => decide
  | some q =>
    have hq : q.1 < 2147483648 := Nat.lt_of_le_of_lt (hb q rfl) hB
    show (if nI q.1 < 0 then 0 else nI q.1) = nI q.1
    rw [if_neg (nI_pos hq)]
theorem leN_le {B : Nat} {o : Option (Nat × Nat)} (hb : boO B o) : leN o ≤ B := by
  cases o with
  | none => exact Nat.zero_le _
  | some q => exact hb q rfl
theorem bo_fold {B : Nat} {v : Nat → Nat} (hv : ∀ r, v r ≤ B) : ∀ (L : List Nat) (o : Option (Nat × Nat)), boO B o → boO B (L.foldl (stF v) o)
  | [], _, h => h
  | r :: L, o, h => bo_fold hv L _ (bo_s h (hv r))
/-- the most -/
def mxS (u : Nat → Nat) (m r : Nat) : Nat := if m < u r then u r else m
theorem mxS_le {B : Nat} {u : Nat → Nat} (hu : ∀ r, u r ≤ B) : ∀ (L : List Nat) (m : Nat), m ≤ B → L.foldl (mxS u) m ≤ B
  | [], _, h => h
  | r :: L, m, h => mxS_le hu L _ (by unfold mxS; split; exact hu r; exact h)
theorem mxF_y {P : Nat → Bool} {v : Nat → Nat} {j m : Nat} (h : m = mxF P v j) (hp : P j = true) : (if m < v j then v j else m) = mxF P v (j + 1) := by
  rw [mxF, h]
  by_cases c : mxF P v j < v j
  · rw [if_pos c, if_pos ⟨hp, c⟩]
  · rw [if_neg c, if_neg (fun h9 => c h9.2)]
theorem mxF_n {P : Nat → Bool} {v : Nat → Nat} {j m : Nat} (h : m = mxF P v j) (hp : ¬ P j = true) : m = mxF P v (j + 1) := by
  rw [mxF, if_neg (fun h9 => hp h9.1)]
  exact h
theorem mxF_ext {P : Nat → Bool} {v : Nat → Nat} {n : Nat} : ∀ k, (∀ i, n ≤ i → i < n + k → ¬ P i = true) → mxF P v (n + k) = mxF P v n
  | 0, _ => rfl
  | k + 1, h => by
    show mxF P v ((n + k) + 1) = _
    rw [mxF, if_neg (fun h9 => h (n + k) (by omega) (by omega) h9.1)]
    exact mxF_ext k (fun i h1 h2 => h i h1 (by omega))
theorem pS_y {s an x a : Nat} (h1 : subB s an = true) (h2 : x ≤ a) : (subB s an && decide (x ≤ a)) = true := by rw [h1, Bool.true_and]; exact decide_eq_true h2
theorem pS_n1 {s an x a : Nat} (h1 : ¬ subB s an = true) : ¬ (subB s an && decide (x ≤ a)) = true := fun h => h1 ((Bool.and_eq_true _ _ ▸ h).1)
theorem pS_n2 {s an x a : Nat} (h2 : ¬ x ≤ a) : ¬ (subB s an && decide (x ≤ a)) = true := fun h => h2 (of_decide_eq_true (Bool.and_eq_true _ _ ▸ h).2)
/-- what the class counts: at the worst where the duke's stand; at the least where the enemy's stand -/
def vS (Wr : Nat → Nat) (an a : Nat) (ef : Nat → Nat) : Nat := mxF (fun s => subB s an && decide (nee Wr ef s ≤ a)) (wor Wr) 8
def uS (Wr : Nat → Nat) (an a : Nat) (ef : Nat → Nat) : Nat := wor Wr an - mxF (fun s => subB s an && decide (hol Wr ef s ≤ a)) (wor Wr) 8
theorem wor_le {Wr : Nat → Nat} (hW : ∀ k, Wr k ≤ 99) (s : Nat) : wor Wr s ≤ 297 := by
  have h0 := hW 0
  have h1 := hW 1
  have h2 := hW 2
  unfold wor s3
  try dsimp only
  split <;> split <;> split <;> omega
theorem vS_le {Wr : Nat → Nat} (hW : ∀ k, Wr k ≤ 99) (an a : Nat) (ef : Nat → Nat) : vS Wr an a ef ≤ 297 := mx_le 8 (fun s _ _ => wor_le hW s)
theorem uS_le {Wr : Nat → Nat} (hW : ∀ k, Wr k ≤ 99) (an a : Nat) (ef : Nat → Nat) : uS Wr an a ef ≤ 297 := by
  have := wor_le hW an
  unfold uS
  omega
theorem wor_sub {Wr : Nat → Nat} {s an : Nat} (h : subB s an = true) : wor Wr s ≤ wor Wr an := by
  unfold wor
  refine s3_le ?_ ?_ ?_
  · try dsimp only
    by_cases c : bt s 0 = true
    · rw [if_pos c, if_pos (sub_0 h c)]; exact Nat.le_refl _
    · rw [if_neg c]; exact Nat.zero_le _
  · try dsimp only
    by_cases c : bt s 1 = true
    · rw [if_pos c, if_pos (sub_1 h c)]; exact Nat.le_refl _
    · rw [if_neg c]; exact Nat.zero_le _
  · try dsimp only
    by_cases c : bt s 2 = true
    · rw [if_pos c, if_pos (sub_2 h c)]; exact Nat.le_refl _
    · rw [if_neg c]; exact Nat.zero_le _
theorem nee_le {Wr ef : Nat → Nat} {s : Nat} (hW : ∀ k, Wr k ≤ 99) (he : ∀ k, ef k ≤ 6) : nee Wr ef s ≤ 30 := by
  have h0 := hW 0
  have h1 := hW 1
  have h2 := hW 2
  have e0 := he 0
  have e1 := he 1
  have e2 := he 2
  unfold nee s3
  try dsimp only
  split <;> split <;> split <;> omega
theorem hol_le {Wr ef : Nat → Nat} {s : Nat} (he : ∀ k, ef k ≤ 6) : hol Wr ef s ≤ 18 := by
  have e0 := he 0
  have e1 := he 1
  have e2 := he 2
  unfold hol s3
  try dsimp only
  split <;> split <;> split <;> omega
/-- SAFE and SURE as the class goes through the ways -/
def foC (Wr : Nat → Nat) (an a d : Nat) : Option (Nat × Nat) := (clL d an).foldl (stF (fun r => vS Wr an a (dgt r))) none
def moC (Wr : Nat → Nat) (an a d : Nat) : Nat := (clL a an).foldl (mxS (fun r => uS Wr an d (dgt r))) 0
theorem fo_bo {Wr : Nat → Nat} (hW : ∀ k, Wr k ≤ 99) (an a d : Nat) : boO 297 (foC Wr an a d) := bo_fold (fun r => vS_le hW an a (dgt r)) _ _ bo_n
/-- for show: walls without which it is the same -/
def shC (Wr : Nat → Nat) (v a d : Nat) : Nat → Nat
  | 0 => 0
  | k + 1 => shC Wr v a d k + (if leN (foC Wr (rmN (allN v) k) a d) = leN (foC Wr (allN v) a d) then 2 ^ k else 0)
theorem shC_lt {Wr : Nat → Nat} {v a d : Nat} : ∀ k, shC Wr v a d k < 2 ^ k
  | 0 => by rw [shC]; decide
  | k + 1 => by
    have := shC_lt (Wr := Wr) (v := v) (a := a) (d := d) k
    rw [shC, Nat.pow_succ]
    split <;> omega
theorem shC_y {Wr : Nat → Nat} {v a d j x : Nat} (h : x = shC Wr v a d j) (he : leN (foC Wr (rmN (allN v) j) a d) = leN (foC Wr (allN v) a d)) : x + 2 ^ j = shC Wr v a d (j + 1) := by rw [shC, if_pos he, h]
theorem shC_n {Wr : Nat → Nat} {v a d j x : Nat} (h : x = shC Wr v a d j) (he : ¬ leN (foC Wr (rmN (allN v) j) a d) = leN (foC Wr (allN v) a d)) : x = shC Wr v a d (j + 1) := by rw [shC, if_neg he, Nat.add_zero]; exact h
/-! the reference: over all rows -/
def sfO (P : Nat → Bool) (v : Nat → Nat) : Nat → Option (Nat × Nat)
  | 0 => none
  | j + 1 => if P j = true then stF v (sfO P v j) j else sfO P v j
theorem sfO_f (P : Nat → Bool) (v : Nat → Nat) : ∀ n, sfO P v n = ((List.range n).filter P).foldl (stF v) none
  | 0 => rfl
  | n + 1 => by
    rw [sfO, sfO_f P v n, List.range_succ, List.filter_append]
    by_cases c : P n = true
    · rw [if_pos c, List.filter_cons_of_pos c, List.filter_nil, List.foldl_append]; rfl
    · rw [if_neg c, List.filter_cons_of_neg c, List.filter_nil, List.append_nil]
theorem mxF_f (P : Nat → Bool) (u : Nat → Nat) : ∀ n, mxF P u n = ((List.range n).filter P).foldl (mxS u) 0
  | 0 => rfl
  | n + 1 => by
    rw [mxF, mxF_f P u n, List.range_succ, List.filter_append]
    by_cases c : P n = true
    · rw [List.filter_cons_of_pos c, List.filter_nil, List.foldl_append]
      show _ = mxS u _ n
      unfold mxS
      split
      · rename_i h; rw [if_pos h.2]
      · rename_i h; rw [if_neg (fun h9 => h ⟨c, h9⟩)]
    · rw [if_neg (fun h9 => c h9.1), List.filter_cons_of_neg c, List.filter_nil, List.append_nil]
theorem bo_sf {B : Nat} {P : Nat → Bool} {v : Nat → Nat} (hv : ∀ r, v r ≤ B) : ∀ n, boO B (sfO P v n)
  | 0 => bo_n
  | n + 1 => by
    rw [sfO]
    split
    · exact bo_s (bo_sf hv n) (hv n)
    · exact bo_sf hv n
def vD (Wr : Nat → Nat) (an a q : Nat) : Nat := mxF (fun r => puB r a an) (fun r => fal Wr an (dgt r) (dgt q)) 343
theorem fal_le {Wr e p : Nat → Nat} {an : Nat} (hW : ∀ k, Wr k ≤ 99) : fal Wr an e p ≤ 297 := by
  have h0 := hW 0
  have h1 := hW 1
  have h2 := hW 2
  unfold fal s3
  try dsimp only
  split <;> split <;> split <;> omega
theorem vD_le {Wr : Nat → Nat} (hW : ∀ k, Wr k ≤ 99) (an a q : Nat) : vD Wr an a q ≤ 297 := mx_le 343 (fun r _ _ => fal_le hW)
theorem cl_ne : ∀ n, n < 7 → ∀ A, A < 8 → A ≠ 0 → clL n A ≠ [] := by decide +kernel
theorem rows_0 : ∀ n, n < 7 → (List.range 343).filter (fun r => puB r n 0) = [0] := by decide +kernel
theorem cl_0 : ∀ n, n < 7 → clL n 0 = if n = 0 then [0] else [] := by decide +kernel
theorem bt_z (k : Nat) : bt 0 k = false := by unfold bt; rw [Nat.zero_div]; rfl
theorem fold_1 (v : Nat → Nat) : [0].foldl (stF v) none = some (v 0, 0) := rfl
theorem fold_m (u : Nat → Nat) (m : Nat) : [0].foldl (mxS u) m = mxS u m 0 := rfl
theorem leI_s (x : Nat × Nat) : leI (some x) = nI x.1 := rfl
theorem leN_s (x : Nat × Nat) : leN (some x) = x.1 := rfl
theorem leN_0 : leN none = 0 := rfl
theorem roN_0 : roN none = 0 := rfl
theorem roN_s (x : Nat × Nat) : roN (some x) = x.2 := rfl
theorem fal_0 (Wr e p : Nat → Nat) : fal Wr 0 e p = 0 := by
  unfold fal s3
  simp [bt_z]
theorem wor_0 (Wr : Nat → Nat) : wor Wr 0 = 0 := by
  unfold wor s3
  simp [bt_z]
theorem fold_ne {v : Nat → Nat} : ∀ (L : List Nat) (o : Option (Nat × Nat)), (o ≠ none ∨ L ≠ []) → L.foldl (stF v) o ≠ none
  | [], o, h => h.resolve_right (fun h9 => h9 rfl)
  | r :: L, o, _ => by
    refine fold_ne L (stF v o r) (Or.inl ?_)
    unfold stF
    cases o with
    | none => intro h; cases h
    | some q =>
      show (if v r < q.1 then some (v r, r) else some q) ≠ none
      split <;> (intro h; cases h)
/-- SAFE: the same by both -/
theorem safe_eq {Wr : Nat → Nat} {an a d : Nat} (h8 : an < 8) (ha : a ≤ 6) (hd : d ≤ 6) : leI (sfO (fun r => puB r d an) (vD Wr an a) 343) = nI (leN (foC Wr an a d)) ∧ roN (sfO (fun r => puB r d an) (vD Wr an a) 343) = roN (foC Wr an a d) := by
  rw [sfO_f]
  by_cases e : an = 0
  · subst e
    rw [rows_0 d (by omega)]
    have hv : vD Wr 0 a 0 = 0 := Nat.le_zero.mp (mx_le 343 (fun r _ _ => by rw [fal_0]; exact Nat.le_refl 0))
    have hS : vS Wr 0 a (dgt 0) = 0 := Nat.le_zero.mp (mx_le 8 (fun s hs hp => by
      have := wor_sub (Wr := Wr) (Bool.and_eq_true _ _ ▸ hp).1
      rw [wor_0] at this
      exact this))
    unfold foC
    rw [cl_0 d (by omega)]
    by_cases c : d = 0
    · simp only [if_pos c, fold_1, leI_s, leN_s, roN_s, hv, hS, and_self]
    · simp only [if_neg c, fold_1, List.foldl_nil, leI_s, roN_s, hv, leN_0, roN_0, and_self]
  · rw [cl_rows d (by omega) an h8 e]
    have hv : vD Wr an a = fun r => vS Wr an a (dgt r) := funext (fun q => fell_max h8 e ha)
    rw [hv]
    show leI (foC Wr an a d) = _ ∧ _
    refine ⟨?_, rfl⟩
    have hne : foC Wr an a d ≠ none := fold_ne _ _ (Or.inr (cl_ne d (by omega) an h8 e))
    revert hne
    cases foC Wr an a d with
    | none => intro h; exact absurd rfl h
    | some q => intro _; rfl
/-- the least of the duke's ways against one of the enemy's -/
def uD (Wr : Nat → Nat) (an d q : Nat) : Nat := (mnO (fun r => puB r d an) (fun r => fal Wr an (dgt q) (dgt r)) 343).getD 0
def mnI (o : Option Nat) : Int32 :=
  match o with
  | none => -1
  | some x => nI x
def bnO (B : Nat) (o : Option Nat) : Prop := ∀ x, o = some x → x ≤ B
theorem bn_n {B : Nat} {P : Nat → Bool} {v : Nat → Nat} (hv : ∀ r, v r ≤ B) : ∀ n, bnO B (mnO P v n)
  | 0 => fun x h => by cases h
  | n + 1 => by
    have ih := bn_n (P := P) hv n
    rw [mnO]
    split
    · revert ih
      cases mnO P v n with
      | none => intro _ x h; cases h; exact hv n
      | some b =>
        intro ih x
        show (if v n < b then some (v n) else some b) = some x → _
        have hb := ih b rfl
        split
        · intro h; cases h; exact hv n
        · intro h; cases h; exact hb
    · exact ih
theorem mn_y {B : Nat} {P : Nat → Bool} {v : Nat → Nat} {n : Nat} (hb : bnO B (mnO P v n)) (hB : B < 2147483648) (hv : v n < 2147483648) (hp : P n = true) (h : mnI (mnO P v n) = -1 ∨ ¬ mnI (mnO P v n) ≤ nI (v n)) : nI (v n) = mnI (mnO P v (n + 1)) := by
  rw [mnO, if_pos hp]
  revert hb h
  cases mnO P v n with
  | none => intro _ _; rfl
  | some b =>
    intro hb h
    have hq : b < 2147483648 := Nat.lt_of_le_of_lt (hb b rfl) hB
    show _ = mnI (if v n < b then some (v n) else some b)
    rw [if_pos]
    · rfl
    · rcases h with h | h
      · exact absurd h (nI_nm1 hq)
      · exact Nat.lt_of_not_le (fun h9 => h ((nI_leI hq hv).mpr h9))
theorem mn_n {B : Nat} {P : Nat → Bool} {v : Nat → Nat} {n : Nat} (hb : bnO B (mnO P v n)) (hB : B < 2147483648) (hv : v n < 2147483648) (h1 : ¬ mnI (mnO P v n) = -1) (h2 : mnI (mnO P v n) ≤ nI (v n)) : mnI (mnO P v n) = mnI (mnO P v (n + 1)) := by
  rw [mnO]
  split
  · revert hb h1 h2
    cases mnO P v n with
    | none => intro _ h1 _; exact absurd rfl h1
    | some b =>
      intro hb _ h2
      have hq : b < 2147483648 := Nat.lt_of_le_of_lt (hb b rfl) hB
      have := (nI_leI hq hv).mp h2
      show _ = mnI (if v n < b then some (v n) else some b)
      rw [if_neg (by omega)]
  · rfl
theorem mn_p {P : Nat → Bool} {v : Nat → Nat} {n : Nat} (hp : ¬ P n = true) : mnI (mnO P v n) = mnI (mnO P v (n + 1)) := by rw [mnO, if_neg hp]
theorem mn_0 {Wr : Nat → Nat} {d q : Nat} (hd : d ≤ 6) : mnO (fun r => puB r d 0) (fun r => fal Wr 0 (dgt q) (dgt r)) 343 = some 0 := by
  refine mn_is 343 (fun n _ _ => Nat.zero_le _) ⟨0, by decide, ?_, ?_⟩
  · show puB 0 d 0 = true
    unfold puB
    rw [show (0 == 0) = true from rfl, Bool.or_true, Bool.and_true]
    decide
  · show fal Wr 0 _ _ ≤ 0
    rw [fal_0]
    exact Nat.le_refl 0
theorem mn_s {Wr : Nat → Nat} {an d q : Nat} (h8 : an < 8) (hd : d ≤ 6) : mnO (fun r => puB r d an) (fun r => fal Wr an (dgt q) (dgt r)) 343 = some (uD Wr an d q) := by
  unfold uD
  by_cases e : an = 0
  · subst e; rw [mn_0 hd]; rfl
  · rw [hold_min h8 e hd]; rfl
theorem uD_le {Wr : Nat → Nat} (hW : ∀ k, Wr k ≤ 99) {an d q : Nat} : uD Wr an d q ≤ 297 := by
  unfold uD
  have h := bn_n (P := fun r => puB r d an) (v := fun r => fal Wr an (dgt q) (dgt r)) (B := 297) (fun r => fal_le hW) 343
  revert h
  cases mnO (fun r => puB r d an) (fun r => fal Wr an (dgt q) (dgt r)) 343 with
  | none => intro _; exact Nat.zero_le _
  | some b => intro h; exact h b rfl
/-- SURE: the same by both -/
theorem sure_eq {Wr : Nat → Nat} {an a d : Nat} (h8 : an < 8) (ha : a ≤ 6) (hd : d ≤ 6) : mxF (fun r => puB r a an) (uD Wr an d) 343 = moC Wr an a d := by
  by_cases e : an = 0
  · subst e
    have h1 : mxF (fun r => puB r a 0) (uD Wr 0 d) 343 = 0 := Nat.le_zero.mp (mx_le 343 (fun r _ _ => by unfold uD; rw [mn_0 hd]; exact Nat.le_refl 0))
    rw [h1]
    unfold moC
    rw [cl_0 a (by omega)]
    by_cases c : a = 0
    · have hu0 : uS Wr 0 d (dgt 0) = 0 := by unfold uS; rw [wor_0]; omega
      rw [if_pos c, fold_m]
      unfold mxS
      show 0 = if 0 < uS Wr 0 d (dgt 0) then uS Wr 0 d (dgt 0) else 0
      rw [hu0]
      rfl
    · rw [if_neg c]; rfl
  · rw [mxF_f, cl_rows a (by omega) an h8 e]
    have hu : uD Wr an d = fun r => uS Wr an d (dgt r) := funext (fun q => by unfold uD; rw [hold_min h8 e hd]; rfl)
    rw [hu]
    rfl
