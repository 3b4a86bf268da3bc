/-! reading a text, as both sides do it: T the tape's letters (0 .. 255), n the text's length -/
def chA (T : Nat → Nat) (n k : Nat) : Nat := if k < n then T k else 256
def isBl (x : Nat) : Bool := x == 32
def isLt (x : Nat) : Bool := 97 ≤ x && x ≤ 122
def isDg (x : Nat) : Bool := 48 ≤ x && x ≤ 57
/-- where a run ends -/
def rnE (P : Nat → Bool) (T : Nat → Nat) (n : Nat) : Nat → Nat → Nat
  | 0, k => k
  | f + 1, k => if P (chA T n k) = true then rnE P T n f (k + 1) else k
def rn (P : Nat → Bool) (T : Nat → Nat) (n k : Nat) : Nat := rnE P T n (n - k) k
theorem rn_step {P : Nat → Bool} {T : Nat → Nat} {n k : Nat} (hk : k < n) (h : P (T k) = true) : rn P T n k = rn P T n (k + 1) := by
  unfold rn
  obtain ⟨f, hf⟩ : ∃ f, n - k = f + 1 := ⟨n - k - 1, by omega⟩
  rw [hf, rnE, show chA T n k = T k from if_pos hk, if_pos h, show n - (k + 1) = f by omega]
theorem rn_stop {P : Nat → Bool} {T : Nat → Nat} {n k : Nat} (h : k < n → P (T k) = false) : rn P T n k = k := by
  unfold rn
  cases hf : n - k with
  | zero => rfl
  | succ f =>
    have hk : k < n := by omega
    rw [rnE, show chA T n k = T k from if_pos hk, h hk, if_neg (by decide)]
theorem rnE_ge (P : Nat → Bool) (T : Nat → Nat) (n : Nat) : ∀ f k, k ≤ rnE P T n f k ∧ rnE P T n f k ≤ k + f
  | 0, k => ⟨Nat.le_refl _, Nat.le_refl _⟩
  | f + 1, k => by
    rw [rnE]
    split
    · have := rnE_ge P T n f (k + 1); omega
    · omega
theorem rn_ge (P : Nat → Bool) (T : Nat → Nat) (n k : Nat) : k ≤ rn P T n k := (rnE_ge P T n _ k).1
theorem rn_le {P : Nat → Bool} {T : Nat → Nat} {n k : Nat} (hk : k ≤ n) : rn P T n k ≤ n := by have := (rnE_ge P T n (n - k) k).2; unfold rn; omega
theorem rnE_in {P : Nat → Bool} {T : Nat → Nat} {n : Nat} : ∀ f k j, k + f ≤ n → k ≤ j → j < rnE P T n f k → P (T j) = true
  | 0, k, j, _, h1, h2 => absurd h2 (by rw [rnE]; omega)
  | f + 1, k, j, hn, h1, h2 => by
    rw [rnE] at h2
    split at h2
    · rename_i h
      rw [show chA T n k = T k from if_pos (by omega)] at h
      rcases Nat.eq_or_lt_of_le h1 with e | e
      · rw [← e]; exact h
      · exact rnE_in f (k + 1) j (by omega) e h2
    · omega
theorem rn_in {P : Nat → Bool} {T : Nat → Nat} {n k j : Nat} (hk : k ≤ n) (h1 : k ≤ j) (h2 : j < rn P T n k) : P (T j) = true := rnE_in (n - k) k j (by omega) h1 h2
/-- a letter as a byte -/
def sbI (x : Nat) : Int32 := if x < 128 then nI x else nI x - 256
theorem sb_tab : ∀ x : Nat, x < 256 → ((sbI x = 32 ↔ x = 32) ∧ (sbI x = 59 ↔ x = 59)) ∧ ((97 ≤ sbI x ∧ sbI x ≤ 122) ↔ (97 ≤ x ∧ x ≤ 122)) ∧ ((48 ≤ sbI x ∧ sbI x ≤ 57) ↔ (48 ≤ x ∧ x ≤ 57)) := by decide +kernel
/-- the number that a run of digits says, at most 100000 -/
def nvF (T : Nat → Nat) (b : Nat) : Nat → Nat
  | 0 => 0
  | j + 1 => min (10 * nvF T b j + (T (b + j) - 48)) 100000
theorem nv_le (T : Nat → Nat) (b : Nat) : ∀ j, nvF T b j ≤ 100000
  | 0 => by rw [nvF]; omega
  | j + 1 => by rw [nvF]; omega
/-- the number of a word, as the reference counts it: its first six letters -/
def hsF (T : Nat → Nat) (b : Nat) : Nat → Nat
  | 0 => 0
  | j + 1 => if j < 6 then 27 * hsF T b j + (T (b + j) - 96) else hsF T b j
/-- the word from b to e is w -/
def wdE (T : Nat → Nat) (b e : Nat) (w : List Nat) : Prop := e - b = w.length ∧ ∀ i, i < w.length → T (b + i) = w.getD i 0
def sixN (w : List Nat) : Nat := w.foldl (fun a c => 27 * a + (c - 96)) 0
theorem sixN_c (w : List Nat) (c : Nat) : sixN (w ++ [c]) = 27 * sixN w + (c - 96) := by unfold sixN; rw [List.foldl_append]; rfl
/-- a word of at most six letters by its number -/
theorem hs_inj {T : Nat → Nat} {b : Nat} : ∀ (m : Nat) (w : List Nat), m ≤ 6 → (∀ i, i < m → 97 ≤ T (b + i) ∧ T (b + i) ≤ 122) → (∀ c ∈ w, 97 ≤ c ∧ c ≤ 122) → (hsF T b m = sixN w ↔ (m = w.length ∧ ∀ i, i < w.length → T (b + i) = w.getD i 0)) := by
  intro m
  induction m with
  | zero =>
    intro w _ _ hw
    rcases List.eq_nil_or_concat w with rfl | ⟨w', c, rfl⟩
    · exact ⟨fun _ => ⟨rfl, fun i hi => absurd hi (Nat.not_lt_zero i)⟩, fun _ => rfl⟩
    · rw [List.concat_eq_append] at hw ⊢
      have hc := hw c (by simp)
      rw [sixN_c, hsF]
      constructor
      · intro h; omega
      · intro h; simp at h
  | succ m ih =>
    intro w hm hT hw
    have ht := hT m (by omega)
    rw [hsF, if_pos (by omega)]
    rcases List.eq_nil_or_concat w with rfl | ⟨w', c, rfl⟩
    · constructor
      · intro h; unfold sixN at h; simp at h; omega
      · intro h; simp at h
    · rw [List.concat_eq_append] at hw ⊢
      have hc := hw c (by simp)
      have ihw := ih w' (by omega) (fun i hi => hT i (by omega)) (fun q hq => hw q (by simp [hq]))
      rw [sixN_c, List.length_append, List.length_singleton]
      constructor
      · intro h
        have h1 : hsF T b m = sixN w' := by omega
        have h2 : T (b + m) = c := by omega
        obtain ⟨e1, e2⟩ := ihw.mp h1
        refine ⟨by omega, fun i hi => ?_⟩
        rcases Nat.lt_or_ge i w'.length with q | q
        · rw [List.getD_eq_getElem?_getD, List.getElem?_append_left q, ← List.getD_eq_getElem?_getD]; exact e2 i q
        · rw [List.getD_eq_getElem?_getD, List.getElem?_append_right q, show i - w'.length = 0 by omega, show i = m by omega]; exact h2
      · rintro ⟨e1, e2⟩
        have h1 : hsF T b m = sixN w' := ihw.mpr ⟨by omega, fun i hi => by
          have := e2 i (by omega)
          rw [List.getD_eq_getElem?_getD, List.getElem?_append_left hi, ← List.getD_eq_getElem?_getD] at this
          exact this⟩
        have h2 := e2 m (by omega)
        rw [List.getD_eq_getElem?_getD, List.getElem?_append_right (by omega), show m - w'.length = 0 by omega] at h2
        have h3 : T (b + m) = c := h2
        rw [h1, h3]
theorem hs_7 {T : Nat → Nat} {b m : Nat} (h : 6 ≤ m) : hsF T b m = hsF T b 6 := by
  induction m with
  | zero => omega
  | succ m ih =>
    rcases Nat.eq_or_lt_of_le h with e | e
    · rw [← e]
    · rw [hsF, if_neg (by omega)]; exact ih (by omega)
theorem hs_le {T : Nat → Nat} {b : Nat} : ∀ m, (∀ i, i < m → T (b + i) ≤ 122) → hsF T b m ≤ 27 ^ 6 := by
  have key : ∀ m, m ≤ 6 → (∀ i, i < m → T (b + i) ≤ 122) → hsF T b m < 27 ^ m := by
    intro m
    induction m with
    | zero => intro _ _; rw [hsF]; decide
    | succ m ih =>
      intro h1 h2
      have := ih (by omega) (fun i hi => h2 i (by omega))
      have := h2 m (by omega)
      rw [hsF, if_pos (by omega), Nat.pow_succ]
      omega
  intro m hT
  rcases Nat.lt_or_ge m 6 with q | q
  · have h1 := key m (by omega) hT
    have h2 : 27 ^ m ≤ 27 ^ 6 := Nat.pow_le_pow_right (by decide) (by omega)
    omega
  · rw [hs_7 q]
    have h1 := key 6 (Nat.le_refl 6) (fun i hi => hT i (by omega))
    omega
/-- the numbers of a part, one behind the other, each with its bounds lo ≤ v < hx: the fault and its place, or none; where it ends; the numbers -/
def nmS (T : Nat → Nat) (n : Nat) : List (Nat × Nat) → Nat → Option (Nat × Nat) × Nat × List Nat
  | [], p => (none, p, [])
  | q :: L, p =>
    if rn isDg T n (rn isBl T n p) = rn isBl T n p then (some (1, rn isBl T n p), rn isDg T n (rn isBl T n p), [])
    else if q.1 ≤ nvF T (rn isBl T n p) (rn isDg T n (rn isBl T n p) - rn isBl T n p) ∧ nvF T (rn isBl T n p) (rn isDg T n (rn isBl T n p) - rn isBl T n p) < q.2 then
      ((nmS T n L (rn isDg T n (rn isBl T n p))).1, (nmS T n L (rn isDg T n (rn isBl T n p))).2.1, nvF T (rn isBl T n p) (rn isDg T n (rn isBl T n p) - rn isBl T n p) :: (nmS T n L (rn isDg T n (rn isBl T n p))).2.2)
    else (some (2, rn isBl T n p), rn isDg T n (rn isBl T n p), [])
/-- which of the words lies from b to e -/
def wdB (T : Nat → Nat) (b e : Nat) (w : List Nat) : Bool := (e - b == w.length) && (List.range w.length).all (fun i => T (b + i) == w.getD i 0)
theorem wdB_iff {T : Nat → Nat} {b e : Nat} {w : List Nat} : wdB T b e w = true ↔ (e - b = w.length ∧ ∀ i, i < w.length → T (b + i) = w.getD i 0) := by
  unfold wdB
  rw [Bool.and_eq_true, List.all_eq_true]
  constructor
  · rintro ⟨h1, h2⟩
    exact ⟨by simpa using h1, fun i hi => by have := h2 i (List.mem_range.mpr hi); simpa using this⟩
  · rintro ⟨h1, h2⟩
    exact ⟨by simpa using h1, fun i hi => by have := h2 i (List.mem_range.mp hi); simpa using this⟩
def wrdF (T : Nat → Nat) (b e : Nat) (wl : List (List Nat)) : Option Nat := wl.findIdx? (fun w => wdB T b e w)
/-- a part: the fault and its place, or none; where it ends; what it tells -/
def ptS (T : Nat → Nat) (n : Nat) (wl : List (List Nat)) (bd : Nat → List (Nat × Nat)) (full : Nat → Bool) (k : Nat) : Option (Nat × Nat) × Nat × Option (Nat × List Nat) :=
  match wrdF T k (rn isLt T n k) wl with
  | none => (some (1, k), rn isLt T n k, none)
  | some q =>
    if full q = true then (some (3, k), rn isLt T n k, none)
    else match nmS T n (bd q) (rn isLt T n k) with
      | (some f, p, _) => (some f, p, none)
      | (none, p, vs) => if rn isBl T n p < n ∧ T (rn isBl T n p) = 59 then (none, rn isBl T n p + 1, some (q, vs)) else (some (1, rn isBl T n p), rn isBl T n p, none)
/-- a siege's text: bounds, what is told, how a part changes it: walls, their numbers, the duke's .. cost's, the fears by nearness -/
def bd6 : Nat → List (Nat × Nat) := fun q => [[(1, 100), (0, 51)], [(0, 10000), (0, 1000), (0, 10)], [(0, 10000), (0, 1000), (0, 10)], [(0, 10000), (0, 101)], [(0, 101), (0, 51), (0, 51)], [(0, 10), (0, 21)], [(0, 10)], [(0, 100), (0, 100)]].getD q []
def bd5 (w : Nat) : Nat → List (Nat × Nat) := fun q => [[(0, 1000)], [(0, 1000)], [(0, 10)], [(0, 100)], [(0, 100)], [(1, 37)], [(0, w), (0, 36)]].getD q []
