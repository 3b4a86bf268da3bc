/-! the reference as one state -/
theorem c10 : ¬ (1 : Int32) = 0 := by decide
theorem c20 : ¬ (2 : Int32) = 0 := by decide
/-- the rows that are kept, and what they stand for -/
def coR (nt : Nat) (r3 r4 : Nat → Nat) (M : Nat → Nat → Int32) (R : Rw) : Prop := ∀ c, c < nt → conR (M (r3 c)) (M (r4 c)) (R (10 + c)) (R (20 + c))
def ofR (r9 : Nat → Nat) (M : Nat → Nat → Int32) (R : Rw) : Prop := ∀ d, d < 2 → ∀ m, m < 12 → M (r9 d) m = R (30 + d) m
/-- what an image's row holds of the rows -/
def imR (q : (Nat → Nat) × Rw) (K : Nat → Int32) : Prop := (∀ i, i < 24 → K (59 + i) = q.2 5 i) ∧ (∀ t, t < q.1 5 → (∀ i, i < 24 → K (84 + t * 25 + i) = q.2 (40 + t) i) ∧ ∀ j, j < 6 → K (3109 + t * 6 + j) = q.2 (200 + t) j) ∧ ∀ d, d < 2 → ∀ m, m < 12 → K (35 + m * 2 + d) = q.2 (30 + d) m
def kpL (ig : Nat) (J : Nat → (Nat → Nat) × Rw) (K : Nat → Nat → Int32) : Prop := ∀ j, j < ig → (J j).1 4 ≤ 12 ∧ (J j).1 5 ≤ 120 ∧ K j 2 = nI ((J j).1 4) ∧ K j 83 = nI ((J j).1 5) ∧ imR (J j) (K j)
section RS
variable {tl f F g g2 : Nat → Int32} {M M2 : Nat → Nat → Int32} {r2 r3 r4 r5 r6 r9 : Nat → Nat} {R R2 : Rw} {w nt mm m2 : Nat}
theorem datR_s (h : datR w tl M r2 R) (hw : w ≤ 6) (e : ∀ i, i < 6 → M2 (r2 i) = M (r2 i)) : datR w tl M2 r2 R := ⟨h.1, fun k hk => by rw [e k (by omega)]; exact h.2 k hk⟩
theorem goR_s (h : goR r5 r6 M mm R) (hm : mm ≤ 120) (e5 : ∀ i, i < 121 → M2 (r5 i) = M (r5 i)) (e6 : ∀ i, i < 120 → M2 (r6 i) = M (r6 i)) : goR r5 r6 M2 mm R := fun t ht => by
  rw [e5 t (by omega), e6 t (by omega)]
  exact h t ht
theorem coR_s (h : coR nt r3 r4 M R) (hn : nt ≤ 6) (e3 : ∀ i, i < 6 → M2 (r3 i) = M (r3 i)) (e4 : ∀ i, i < 6 → M2 (r4 i) = M (r4 i)) : coR nt r3 r4 M2 R := fun c hc => by
  rw [e3 c (by omega), e4 c (by omega)]
  exact h c hc
theorem ofR_s (h : ofR r9 M R) (e : ∀ i, i < 2 → M2 (r9 i) = M (r9 i)) : ofR r9 M2 R := fun d hd m hm => by
  rw [e d hd]
  exact h d hd m hm
theorem datR_c (h : datR w tl M r2 R) (e : ∀ i, 2 ≤ i → i < 5 → R2 i = R i) : datR w tl M r2 R2 := by
  unfold datR
  rw [e 2 (by decide) (by decide), e 3 (by decide) (by decide), e 4 (by decide) (by decide)]
  exact h
theorem goR_c (h : goR r5 r6 M mm R) (hm : m2 ≤ mm) (e : ∀ i, 40 ≤ i → R2 i = R i) : goR r5 r6 M m2 R2 := fun t ht => by
  rw [e (40 + t) (by omega), e (200 + t) (by omega)]
  exact h t (by omega)
theorem coR_c (h : coR nt r3 r4 M R) (hn : nt ≤ 6) (e : ∀ i, 10 ≤ i → i < 30 → R2 i = R i) : coR nt r3 r4 M R2 := fun c hc => by
  rw [e (10 + c) (by omega) (by omega), e (20 + c) (by omega) (by omega)]
  exact h c hc
theorem ofR_c (h : ofR r9 M R) (e : ∀ i, 30 ≤ i → i < 32 → R2 i = R i) : ofR r9 M R2 := fun d hd m hm => by
  rw [e (30 + d) (by omega) (by omega)]
  exact h d hd m hm
theorem sg_eq (h : eqP mP f F) (x : Int32) : eqP mP (sgF f x) (sgF F x) := by
  intro i hi
  unfold sgF
  by_cases e1 : i = 11
  · rw [e1, upd_s, upd_s]
  · rw [upd_n e1, upd_n e1]
    by_cases e0 : i = 10
    · rw [e0, upd_s, upd_s]
    · rw [upd_n e0, upd_n e0]; exact h i hi
theorem a25_now (h : eqP mP f F) (e : a25 f g) : eqP mP g F := fun i hi => (e i (by have : i < 24 := hi; omega)).trans (h i hi)
theorem mw_e (h : datR w tl M r2 R) (x y : Int32) : mwF tl x y = waA R x y := by
  unfold mwF waA
  rw [h.1 13 (by decide) (by decide), h.1 14 (by decide) (by decide)]
theorem ne_R (h : datR w tl M r2 R) (x y : Int32) : ∀ n r, neR tl x y n r = neA R x y n r
  | 0, _ => rfl
  | n + 1, r => by rw [neR, neA, mw_e h, ne_R h x y n (r + 1)]
theorem ck_R {i j : Nat} (h : goR r5 r6 M mm R) (hj : j < 6) : (if i < mm then M (r6 i) j else 0) = if i < mm then R (200 + i) j else 0 := by
  by_cases c : i < mm
  · rw [if_pos c, if_pos c]; exact (h i c).2 j hj
  · rw [if_neg c, if_neg c]
theorem un_R {n um : Nat} (h : eqP mP f (R 5)) (hg : goR r5 r6 M mm R) (e : um = mm - min n mm) (h3 : (um = mm ∧ g = f) ∨ (um < mm ∧ g = flF (M (r5 um)) f 25)) : eqP mP g (unA R mm n 5) := by
  unfold unA
  rcases h3 with ⟨e1, e2⟩ | ⟨e1, e2⟩
  · rw [if_neg (by omega), e2]; exact h
  · rw [if_pos ⟨rfl, by omega⟩, ← e, e2]
    intro i hi
    have hi9 : i < 24 := hi
    unfold flF
    rw [if_pos (by omega)]
    exact (hg um e1).1 i hi9
theorem of_uR {d j : Nat} {z : Int32} (hJ : ∀ a b, a < 2 → b < 2 → r9 a = r9 b → a = b) (h : ofR r9 M R) (hd : d < 2) : ofR r9 (va_up M (r9 d) (upd (M (r9 d)) j z)) (rwU R (30 + d) (upd (R (30 + d)) j z)) := by
  intro a ha m hm
  by_cases e : a = d
  · subst e
    rw [mv_in, rwU_s]
    by_cases q : m = j
    · rw [q, upd_s, upd_s]
    · rw [upd_n q, upd_n q]; exact h a ha m hm
  · rw [mv_out (fun h9 => e (hJ a d ha hd h9)), rwU_n (by omega)]
    exact h a ha m hm
theorem coR_n {L : List (Nat × List Nat)} (h : coR nt r3 r4 M R) (hn : nt < 6) (hJ3 : ∀ a b, a < 7 → b < 7 → r3 a = r3 b → a = b) (hJ4 : ∀ a b, a < 7 → b < 7 → r4 a = r4 b → a = b) (hD : ∀ i j, i < 7 → j < 7 → r3 i ≠ r4 j) (hx : ∀ a, a ≠ r3 nt → a ≠ r4 nt → M2 a = M a) (hc : conR (M2 (r3 nt)) (M2 (r4 nt)) (ctC L) (ctB L)) : coR (nt + 1) r3 r4 M2 (ctR9 nt L R) := by
  intro c hcn
  by_cases e : c = nt
  · subst e
    have e1 : ctR9 c L R (10 + c) = ctC L := by unfold ctR9; rw [if_pos rfl]
    have e2 : ctR9 c L R (20 + c) = ctB L := by unfold ctR9; rw [if_neg (by omega), if_pos rfl]
    rw [e1, e2]
    exact hc
  · rw [ct_n0 (i := 10 + c) (by omega) (by omega), ct_n0 (i := 20 + c) (by omega) (by omega), hx (r3 c) (fun h9 => e (hJ3 c nt (by omega) (by omega) h9)) (hD c nt (by omega) (by omega)), hx (r4 c) (fun h9 => hD nt c (by omega) (by omega) h9.symm) (fun h9 => e (hJ4 c nt (by omega) (by omega) h9))]
    exact h c (by omega)
theorem TR_e {TQ : Nat → Nat} (h : coR nt r3 r4 M R) (hc : conAll r3 r4 TQ M nt) : ∀ c, c < nt → toN (R (10 + c) 5) = TQ c := fun c hcn => by
  have e := (h c hcn).1 5 (by decide)
  obtain ⟨-, -, -, h5, -, h36⟩ := hc c hcn
  rw [← e, h5, toN_I (by omega)]
theorem im_now {K : Nat → Int32} {J : (Nat → Nat) × Rw} (h : imR J K) (e : ∀ q, q < 25 → g q = K (59 + q)) : eqP mP g (rsR J.2 R 5) := fun i hi => by
  have hi9 : i < 24 := hi
  show g i = J.2 5 i
  rw [e i (by omega)]
  exact h.1 i hi9
theorem im_go {K : Nat → Int32} {J : (Nat → Nat) × Rw} (h : imR J K) (e : J.1 5 = m2) (hm : m2 ≤ 120) (h5 : tF r5 25 84 K M 121 0) (h6 : tF r6 6 3109 K M 120 0) : goR r5 r6 M m2 (rsR J.2 R) := by
  intro t ht
  have e1 : rsR J.2 R (40 + t) = J.2 (40 + t) := by unfold rsR; rw [if_pos (by omega)]
  have e2 : rsR J.2 R (200 + t) = J.2 (200 + t) := by unfold rsR; rw [if_pos (by omega)]
  rw [e1, e2]
  have := h.2.1 t (by omega)
  exact ⟨fun i hi => (h5.1 t (by omega) i (by omega)).trans (this.1 i hi), fun q hq => (h6.1 t (by omega) q hq).trans (this.2 q hq)⟩
theorem im_of {K : Nat → Int32} {J : (Nat → Nat) × Rw} (h : imR J K) (h9 : tG r9 2 35 K M 12 0) : ofR r9 M (rsR J.2 R) := by
  intro d hd m hm
  have e1 : rsR J.2 R (30 + d) = J.2 (30 + d) := by unfold rsR; rw [if_pos (by omega)]
  rw [e1]
  exact (h9.1 m hm d hd).trans (h.2.2 d hd m hm)
theorem rs_datR {J : Rw} : ∀ i, 2 ≤ i → i < 5 → rsR J R i = R i := fun i h1 h2 => by unfold rsR; rw [if_neg (by omega)]
theorem rs_coR {J : Rw} : ∀ i, 10 ≤ i → i < 30 → rsR J R i = R i := fun i h1 h2 => by unfold rsR; rw [if_neg (by omega)]
theorem of_new {L : List (Nat × List Nat)} {r7 : Nat → Nat} (h : rNew r7 r9 M) : ofR r9 M (sgR9 L R) := fun d hd m hm => by
  rcases (show d = 0 ∨ d = 1 by omega) with rfl | rfl
  · exact h.2 0 (by decide) m hm
  · exact h.2 1 (by decide) m hm
theorem un_u {n : Nat} {i : Nat} (h : i ≠ 5) : unA R mm n i = R i := un_n h
end RS
theorem kpL_s {ig : Nat} {J : Nat → (Nat → Nat) × Rw} {K K2 : Nat → Nat → Int32} (h : kpL ig J K) (hi : ig ≤ 3) (e : ∀ i, i < 3 → K2 i = K i) : kpL ig J K2 := fun j hj => by
  rw [e j (by omega)]; exact h j hj
theorem kpL_m {n m : Nat} {J : Nat → (Nat → Nat) × Rw} {K : Nat → Nat → Int32} (h : kpL n J K) (hm : m ≤ n) : kpL m J K := fun j hj => h j (by omega)
theorem kpL_n {ig : Nat} {S : AbS} {K K2 : Nat → Nat → Int32} (h : kpL ig S.2.2.2.1 K) (hi : S.1 3 = ig) (h4 : S.1 4 ≤ 12) (h5 : S.1 5 ≤ 120) (e : ∀ j, j < ig → K2 j = K j) (e2 : K2 ig 2 = nI (S.1 4)) (e3 : K2 ig 83 = nI (S.1 5)) (e4 : imR (S.1, S.2.2.2.2) (K2 ig)) : kpL (ig + 1) (imS S).2.2.2.1 K2 := by
  intro j hj
  by_cases c : j = ig
  · rw [c, imS_at hi]; exact ⟨h4, h5, e2, e3, e4⟩
  · rw [imS_ne hi c, e j (by omega)]; exact h j (by omega)
theorem kpL_0 {J : Nat → (Nat → Nat) × Rw} {K : Nat → Nat → Int32} : kpL 0 J K := fun j hj => absurd hj (Nat.not_lt_zero j)
set_option maxRecDepth 100000 in
def RWF (L : List Nat) (ln : Nat → Nat) (r1 r2 r3 r4 r5 r6 r7 r8 r9 r10 r11 : Nat → Nat) : Prop := (∀ i, i < 6 → r1 i ∈ L ∧ ln (r1 i) = 2 ∧ True) ∧ (∀ i, i < 6 → r2 i ∈ L ∧ ln (r2 i) = 2 ∧ True) ∧ (∀ i, i < 7 → r3 i ∈ L ∧ ln (r3 i) = 7 ∧ True) ∧ (∀ i, i < 7 → r4 i ∈ L ∧ ln (r4 i) = 36 ∧ True) ∧ (∀ i, i < 121 → r5 i ∈ L ∧ ln (r5 i) = 25 ∧ True) ∧ (∀ i, i < 120 → r6 i ∈ L ∧ ln (r6 i) = 6 ∧ True) ∧ (∀ i, i < 4 → r7 i ∈ L ∧ ln (r7 i) = 2 ∧ True) ∧ (∀ i, i < 12 → r8 i ∈ L ∧ ln (r8 i) = 2 ∧ True) ∧ (∀ i, i < 2 → r9 i ∈ L ∧ ln (r9 i) = 12 ∧ True) ∧ (∀ i, i < 3 → r10 i ∈ L ∧ ln (r10 i) = 3850 ∧ True) ∧ (∀ i, i < 13 → r11 i ∈ L ∧ ln (r11 i) = 3 ∧ True)
set_option maxRecDepth 100000 in
def RWD (r1 r2 r3 r4 r5 r6 r7 r8 r9 r10 r11 : Nat → Nat) : Prop := (∀ i j, i < 6 → j < 6 → r1 i ≠ r2 j) ∧ (∀ i j, i < 6 → j < 7 → r1 i ≠ r3 j) ∧ (∀ i j, i < 6 → j < 7 → r1 i ≠ r4 j) ∧ (∀ i j, i < 6 → j < 121 → r1 i ≠ r5 j) ∧ (∀ i j, i < 6 → j < 120 → r1 i ≠ r6 j) ∧ (∀ i j, i < 6 → j < 4 → r1 i ≠ r7 j) ∧ (∀ i j, i < 6 → j < 12 → r1 i ≠ r8 j) ∧ (∀ i j, i < 6 → j < 2 → r1 i ≠ r9 j) ∧ (∀ i j, i < 6 → j < 3 → r1 i ≠ r10 j) ∧ (∀ i j, i < 6 → j < 13 → r1 i ≠ r11 j) ∧ (∀ i j, i < 6 → j < 7 → r2 i ≠ r3 j) ∧ (∀ i j, i < 6 → j < 7 → r2 i ≠ r4 j) ∧ (∀ i j, i < 6 → j < 121 → r2 i ≠ r5 j) ∧ (∀ i j, i < 6 → j < 120 → r2 i ≠ r6 j) ∧ (∀ i j, i < 6 → j < 4 → r2 i ≠ r7 j) ∧ (∀ i j, i < 6 → j < 12 → r2 i ≠ r8 j) ∧ (∀ i j, i < 6 → j < 2 → r2 i ≠ r9 j) ∧ (∀ i j, i < 6 → j < 3 → r2 i ≠ r10 j) ∧ (∀ i j, i < 6 → j < 13 → r2 i ≠ r11 j) ∧ (∀ i j, i < 7 → j < 7 → r3 i ≠ r4 j) ∧ (∀ i j, i < 7 → j < 121 → r3 i ≠ r5 j) ∧ (∀ i j, i < 7 → j < 120 → r3 i ≠ r6 j) ∧ (∀ i j, i < 7 → j < 4 → r3 i ≠ r7 j) ∧ (∀ i j, i < 7 → j < 12 → r3 i ≠ r8 j) ∧ (∀ i j, i < 7 → j < 2 → r3 i ≠ r9 j) ∧ (∀ i j, i < 7 → j < 3 → r3 i ≠ r10 j) ∧ (∀ i j, i < 7 → j < 13 → r3 i ≠ r11 j) ∧ (∀ i j, i < 7 → j < 121 → r4 i ≠ r5 j) ∧ (∀ i j, i < 7 → j < 120 → r4 i ≠ r6 j) ∧ (∀ i j, i < 7 → j < 4 → r4 i ≠ r7 j) ∧ (∀ i j, i < 7 → j < 12 → r4 i ≠ r8 j) ∧ (∀ i j, i < 7 → j < 2 → r4 i ≠ r9 j) ∧ (∀ i j, i < 7 → j < 3 → r4 i ≠ r10 j) ∧ (∀ i j, i < 7 → j < 13 → r4 i ≠ r11 j) ∧ (∀ i j, i < 121 → j < 120 → r5 i ≠ r6 j) ∧ (∀ i j, i < 121 → j < 4 → r5 i ≠ r7 j) ∧ (∀ i j, i < 121 → j < 12 → r5 i ≠ r8 j) ∧ (∀ i j, i < 121 → j < 2 → r5 i ≠ r9 j) ∧ (∀ i j, i < 121 → j < 3 → r5 i ≠ r10 j) ∧ (∀ i j, i < 121 → j < 13 → r5 i ≠ r11 j) ∧ (∀ i j, i < 120 → j < 4 → r6 i ≠ r7 j) ∧ (∀ i j, i < 120 → j < 12 → r6 i ≠ r8 j) ∧ (∀ i j, i < 120 → j < 2 → r6 i ≠ r9 j) ∧ (∀ i j, i < 120 → j < 3 → r6 i ≠ r10 j) ∧ (∀ i j, i < 120 → j < 13 → r6 i ≠ r11 j) ∧ (∀ i j, i < 4 → j < 12 → r7 i ≠ r8 j) ∧ (∀ i j, i < 4 → j < 2 → r7 i ≠ r9 j) ∧ (∀ i j, i < 4 → j < 3 → r7 i ≠ r10 j) ∧ (∀ i j, i < 4 → j < 13 → r7 i ≠ r11 j) ∧ (∀ i j, i < 12 → j < 2 → r8 i ≠ r9 j) ∧ (∀ i j, i < 12 → j < 3 → r8 i ≠ r10 j) ∧ (∀ i j, i < 12 → j < 13 → r8 i ≠ r11 j) ∧ (∀ i j, i < 2 → j < 3 → r9 i ≠ r10 j) ∧ (∀ i j, i < 2 → j < 13 → r9 i ≠ r11 j) ∧ (∀ i j, i < 3 → j < 13 → r10 i ≠ r11 j)
set_option maxRecDepth 100000 in
def RWJ (r1 r2 r3 r4 r5 r6 r7 r8 r9 r10 r11 : Nat → Nat) : Prop := (∀ a b, a < 6 → b < 6 → r1 a = r1 b → a = b) ∧ (∀ a b, a < 6 → b < 6 → r2 a = r2 b → a = b) ∧ (∀ a b, a < 7 → b < 7 → r3 a = r3 b → a = b) ∧ (∀ a b, a < 7 → b < 7 → r4 a = r4 b → a = b) ∧ (∀ a b, a < 121 → b < 121 → r5 a = r5 b → a = b) ∧ (∀ a b, a < 120 → b < 120 → r6 a = r6 b → a = b) ∧ (∀ a b, a < 4 → b < 4 → r7 a = r7 b → a = b) ∧ (∀ a b, a < 12 → b < 12 → r8 a = r8 b → a = b) ∧ (∀ a b, a < 2 → b < 2 → r9 a = r9 b → a = b) ∧ (∀ a b, a < 3 → b < 3 → r10 a = r10 b → a = b) ∧ (∀ a b, a < 13 → b < 13 → r11 a = r11 b → a = b)
/-- a row that is kept: all its numbers within their bounds -/
def kpOk (nt : Nat) (TQ : Nat → Nat) (K : Nat → Int32) : Prop := (∃ a, 1 ≤ a ∧ a ≤ 99 ∧ K 0 = nI a) ∧ (∃ a, 1 ≤ a ∧ a ≤ 99 ∧ K 1 = nI a) ∧ (∃ th, th ≤ 12 ∧ K 2 = nI th ∧ ∀ j, j < th → ∀ i, i < 2 → ∃ a, 1 ≤ a ∧ a ≤ 16 ∧ K (11 + j * 2 + i) = nI a) ∧ (∀ j, j < 4 → ∀ i, i < 2 → ∃ a, 1 ≤ a ∧ a ≤ 16 ∧ K (3 + j * 2 + i) = nI a) ∧ (∃ o : Nat → Nat → Nat, (∀ d m, o d m ≤ 999) ∧ ∀ d, d < 2 → ∀ m, m < 12 → K (35 + m * 2 + d) = nI (o d m)) ∧ ∃ mm, mm ≤ 120 ∧ sOk nt TQ mm (fun q => K (59 + q)) ∧ ∀ t, t < mm → sOk nt TQ t (fun q => K (84 + t * 25 + q))
theorem sOk_mono {nt nt2 t : Nat} {TQ TQ2 : Nat → Nat} {f : Nat → Int32} (h : sOk nt TQ t f) (hn : nt ≤ nt2) (hq : ∀ c, c < nt → TQ2 c = TQ c) : sOk nt2 TQ2 t f := by
  refine ⟨h.1, h.2.imp_right ?_⟩
  rintro ⟨c, it, h1, h2, h3, h4⟩
  exact ⟨c, it, by omega, h2, h3, by rw [hq c h1]; exact h4⟩
theorem kpOk_mono {nt nt2 : Nat} {TQ TQ2 : Nat → Nat} {K : Nat → Int32} (h : kpOk nt TQ K) (hn : nt ≤ nt2) (hq : ∀ c, c < nt → TQ2 c = TQ c) : kpOk nt2 TQ2 K := by
  obtain ⟨a1, a2, a3, a4, a5, mm, b1, b2, b3⟩ := h
  exact ⟨a1, a2, a3, a4, a5, mm, b1, sOk_mono b2 hn hq, fun t ht => sOk_mono (b3 t ht) hn hq⟩
def MI (nt : Nat) (TQ : Nat → Nat) (o : Nat → Nat → Nat) (th mm ig : Nat) (r3 r4 r5 r7 r8 r9 r10 : Nat → Nat) (M : Nat → Nat → Int32) : Prop := conAll r3 r4 TQ M nt ∧ gOk nt TQ r5 M mm ∧ kOk r7 M ∧ tOk r8 M th ∧ oOk r9 o M ∧ ∀ j, j < ig → kpOk nt TQ (M (r10 j))
theorem conAll_s {r3 r4 TQ : Nat → Nat} {nt : Nat} {M M2 : Nat → Nat → Int32} (h : conAll r3 r4 TQ M nt) (hn : nt ≤ 6) (e3 : ∀ i, i < 6 → M2 (r3 i) = M (r3 i)) (e4 : ∀ i, i < 6 → M2 (r4 i) = M (r4 i)) : conAll r3 r4 TQ M2 nt := fun c hc => by
  rw [e3 c (by omega), e4 c (by omega)]; exact h c hc
theorem gOk_s {r5 TQ : Nat → Nat} {nt mm : Nat} {M M2 : Nat → Nat → Int32} (h : gOk nt TQ r5 M mm) (hm : mm ≤ 120) (e : ∀ i, i < 121 → M2 (r5 i) = M (r5 i)) : gOk nt TQ r5 M2 mm := fun t ht => by rw [e t (by omega)]; exact h t ht
theorem gOk_m {r5 TQ TQ2 : Nat → Nat} {nt nt2 mm : Nat} {M : Nat → Nat → Int32} (h : gOk nt TQ r5 M mm) (hn : nt ≤ nt2) (hq : ∀ c, c < nt → TQ2 c = TQ c) : gOk nt2 TQ2 r5 M mm := fun t ht => sOk_mono (h t ht) hn hq
theorem kOk_s {r7 : Nat → Nat} {M M2 : Nat → Nat → Int32} (h : kOk r7 M) (e : ∀ i, i < 4 → M2 (r7 i) = M (r7 i)) : kOk r7 M2 := fun i hi => by rw [e i hi]; exact h i hi
theorem tOk_s {r8 : Nat → Nat} {th : Nat} {M M2 : Nat → Nat → Int32} (h : tOk r8 M th) (ht : th ≤ 12) (e : ∀ i, i < 12 → M2 (r8 i) = M (r8 i)) : tOk r8 M2 th := fun i hi => by rw [e i (by omega)]; exact h i hi
theorem oOk_s {r9 : Nat → Nat} {o : Nat → Nat → Nat} {M M2 : Nat → Nat → Int32} (h : oOk r9 o M) (e : ∀ i, i < 2 → M2 (r9 i) = M (r9 i)) : oOk r9 o M2 := fun d hd m hm => by rw [e d hd]; exact h d hd m hm
theorem kp_s {r10 TQ : Nat → Nat} {nt ig : Nat} {M M2 : Nat → Nat → Int32} (h : ∀ j, j < ig → kpOk nt TQ (M (r10 j))) (hi : ig ≤ 3) (e : ∀ i, i < 3 → M2 (r10 i) = M (r10 i)) : ∀ j, j < ig → kpOk nt TQ (M2 (r10 j)) := fun j hj => by rw [e j (by omega)]; exact h j hj
theorem pm_P {X Y R : va_W} (h : X.Perm (Y ++ R)) (P : va_W) : (X ++ P).Perm ((Y ++ P) ++ R) := by
  refine (h.append_right P).trans ?_
  rw [List.append_assoc, List.append_assoc]
  exact List.Perm.append_left Y List.perm_append_comm
set_option maxRecDepth 100000 in
def IM (g : he_G) (m0 : Nat) (S : AbS) (t : Int32) (W : va_W) : Prop := ∃ mAd : Nat → Nat, ∃ mIv : Nat → Int32, ∃ mFn : Nat → Nat → Int32, ∃ k : Nat, ∃ nt : Nat, ∃ oa : Nat, ∃ ob : Nat, ∃ th : Nat, ∃ ig : Nat, ∃ w : Nat, ∃ mm : Nat, ∃ L : List Nat, ∃ ln : Nat → Nat, ∃ M : Nat → Nat → Int32, ∃ r1 : Nat → Nat, ∃ r2 : Nat → Nat, ∃ r3 : Nat → Nat, ∃ r4 : Nat → Nat, ∃ r5 : Nat → Nat, ∃ r6 : Nat → Nat, ∃ r7 : Nat → Nat, ∃ r8 : Nat → Nat, ∃ r9 : Nat → Nat, ∃ r10 : Nat → Nat, ∃ r11 : Nat → Nat, ∃ TQ : Nat → Nat, ∃ o : Nat → Nat → Nat, W = [(oX11 m0 t (nI k) (mIv 0) (mIv 1) (mIv 2) (mIv 3) (mIv 4) (mIv 5) (mAd 0) (mAd 1) (mAd 2) (mAd 3) (mAd 4) (mAd 5) (nI nt) (mAd 6) (mAd 7) (mAd 8) (mAd 9) (mAd 10) (mAd 11) (mAd 12) (mAd 13) 0 (nI oa) (nI ob) (nI th) (nI ig) (mIv 6) (mAd 14) (mAd 15) (mAd 16) (mAd 17) (mIv 7) (mAd 18)), (aI g (mAd 0) 500 (mFn 0)), (aI g (mAd 1) 3 (mFn 1)), (aI g (mAd 2) 25 (mFn 2)), (aI g (mAd 3) 25 (mFn 3)), (aI g (mAd 6) 7 (mFn 4)), (aI g (mAd 7) 36 (mFn 5)), (aI g (mAd 10) 25 (mFn 6)), (aI g (mAd 11) 25 (mFn 7)), (aM g (mAd 4) 6 (he_ro 6 r1)), (aM g (mAd 5) 6 (he_ro 6 r2)), (aM g (mAd 8) 7 (he_ro 7 r3)), (aM g (mAd 9) 7 (he_ro 7 r4)), (aM g (mAd 12) 121 (he_ro 121 r5)), (aM g (mAd 13) 120 (he_ro 120 r6)), (aM g (mAd 14) 4 (he_ro 4 r7)), (aM g (mAd 15) 12 (he_ro 12 r8)), (aM g (mAd 16) 2 (he_ro 2 r9)), (aM g (mAd 17) 3 (he_ro 3 r10)), (aM g (mAd 18) 13 (he_ro 13 r11))] ++ he_pl g L ln M ∧ k ≤ 500 ∧ (mFn 3) 0 = nI w ∧ w ≤ 6 ∧ nt ≤ 6 ∧ ig ≤ 3 ∧ th ≤ 12 ∧ (1 ≤ oa ∧ oa ≤ 99) ∧ (1 ≤ ob ∧ ob ≤ 99) ∧ mm ≤ 120 ∧ sOk nt TQ mm (mFn 6) ∧ (∀ d m, o d m ≤ 999) ∧ MI nt TQ o th mm ig r3 r4 r5 r7 r8 r9 r10 M ∧ RWF L ln r1 r2 r3 r4 r5 r6 r7 r8 r9 r10 r11 ∧ RWD r1 r2 r3 r4 r5 r6 r7 r8 r9 r10 r11 ∧ RWJ r1 r2 r3 r4 r5 r6 r7 r8 r9 r10 r11 ∧ S.1 0 = k ∧ S.1 1 = w ∧ S.1 2 = nt ∧ S.1 3 = ig ∧ S.1 4 = th ∧ S.1 5 = mm ∧ (∀ j, j < k → S.2.1 j < 256 ∧ (mFn 0) j = nI (S.2.1 j)) ∧ (mIv 1) = S.2.2.1 0 0 ∧ (∀ i, i < 3 → (mFn 1) i = S.2.2.1 1 i) ∧ kpL ig S.2.2.2.1 (fun j => M (r10 j)) ∧ datR w (mFn 3) M r2 S.2.2.2.2 ∧ eqP mP (mFn 6) (S.2.2.2.2 5) ∧ goR r5 r6 M mm S.2.2.2.2 ∧ coR nt r3 r4 M S.2.2.2.2 ∧ ofR r9 M S.2.2.2.2
set_option maxRecDepth 100000 in
theorem IM.head {g : he_G} {m0 : Nat} {S : AbS} {t : Int32} {W : va_W} (h : IM g m0 S t W) : ∃ fx R, W = (m0, .inr (10, fx)) :: R := by
  obtain ⟨mAd, mIv, mFn, k, nt, oa, ob, th, ig, w, mm, L, ln, M, r1, r2, r3, r4, r5, r6, r7, r8, r9, r10, r11, TQ, o, rfl, -⟩ := h
  exact ⟨_, _, rfl⟩
set_option maxRecDepth 100000 in
theorem IM.elim {g : he_G} {m0 : Nat} {S : AbS} {t : Int32} {W : va_W} {C : Prop} (h : IM g m0 S t W) (c : ∀ mAd : Nat → Nat, ∀ mIv : Nat → Int32, ∀ mFn : Nat → Nat → Int32, ∀ k : Nat, ∀ nt : Nat, ∀ oa : Nat, ∀ ob : Nat, ∀ th : Nat, ∀ ig : Nat, ∀ w : Nat, ∀ mm : Nat, ∀ L : List Nat, ∀ ln : Nat → Nat, ∀ M : Nat → Nat → Int32, ∀ r1 : Nat → Nat, ∀ r2 : Nat → Nat, ∀ r3 : Nat → Nat, ∀ r4 : Nat → Nat, ∀ r5 : Nat → Nat, ∀ r6 : Nat → Nat, ∀ r7 : Nat → Nat, ∀ r8 : Nat → Nat, ∀ r9 : Nat → Nat, ∀ r10 : Nat → Nat, ∀ r11 : Nat → Nat, ∀ TQ : Nat → Nat, ∀ o : Nat → Nat → Nat, W = [(oX11 m0 t (nI k) (mIv 0) (mIv 1) (mIv 2) (mIv 3) (mIv 4) (mIv 5) (mAd 0) (mAd 1) (mAd 2) (mAd 3) (mAd 4) (mAd 5) (nI nt) (mAd 6) (mAd 7) (mAd 8) (mAd 9) (mAd 10) (mAd 11) (mAd 12) (mAd 13) 0 (nI oa) (nI ob) (nI th) (nI ig) (mIv 6) (mAd 14) (mAd 15) (mAd 16) (mAd 17) (mIv 7) (mAd 18)), (aI g (mAd 0) 500 (mFn 0)), (aI g (mAd 1) 3 (mFn 1)), (aI g (mAd 2) 25 (mFn 2)), (aI g (mAd 3) 25 (mFn 3)), (aI g (mAd 6) 7 (mFn 4)), (aI g (mAd 7) 36 (mFn 5)), (aI g (mAd 10) 25 (mFn 6)), (aI g (mAd 11) 25 (mFn 7)), (aM g (mAd 4) 6 (he_ro 6 r1)), (aM g (mAd 5) 6 (he_ro 6 r2)), (aM g (mAd 8) 7 (he_ro 7 r3)), (aM g (mAd 9) 7 (he_ro 7 r4)), (aM g (mAd 12) 121 (he_ro 121 r5)), (aM g (mAd 13) 120 (he_ro 120 r6)), (aM g (mAd 14) 4 (he_ro 4 r7)), (aM g (mAd 15) 12 (he_ro 12 r8)), (aM g (mAd 16) 2 (he_ro 2 r9)), (aM g (mAd 17) 3 (he_ro 3 r10)), (aM g (mAd 18) 13 (he_ro 13 r11))] ++ he_pl g L ln M → (k ≤ 500) → ((mFn 3) 0 = nI w) → (w ≤ 6) → (nt ≤ 6) → (ig ≤ 3) → (th ≤ 12) → (1 ≤ oa ∧ oa ≤ 99) → (1 ≤ ob ∧ ob ≤ 99) → (mm ≤ 120) → (sOk nt TQ mm (mFn 6)) → (∀ d m, o d m ≤ 999) → (MI nt TQ o th mm ig r3 r4 r5 r7 r8 r9 r10 M) → (RWF L ln r1 r2 r3 r4 r5 r6 r7 r8 r9 r10 r11) → (RWD r1 r2 r3 r4 r5 r6 r7 r8 r9 r10 r11) → (RWJ r1 r2 r3 r4 r5 r6 r7 r8 r9 r10 r11) → (S.1 0 = k) → (S.1 1 = w) → (S.1 2 = nt) → (S.1 3 = ig) → (S.1 4 = th) → (S.1 5 = mm) → (∀ j, j < k → S.2.1 j < 256 ∧ (mFn 0) j = nI (S.2.1 j)) → ((mIv 1) = S.2.2.1 0 0) → (∀ i, i < 3 → (mFn 1) i = S.2.2.1 1 i) → (kpL ig S.2.2.2.1 (fun j => M (r10 j))) → (datR w (mFn 3) M r2 S.2.2.2.2) → (eqP mP (mFn 6) (S.2.2.2.2 5)) → (goR r5 r6 M mm S.2.2.2.2) → (coR nt r3 r4 M S.2.2.2.2) → (ofR r9 M S.2.2.2.2) → C) : C := by
  obtain ⟨mAd, mIv, mFn, k, nt, oa, ob, th, ig, w, mm, L, ln, M, r1, r2, r3, r4, r5, r6, r7, r8, r9, r10, r11, TQ, o, hW, hk, htl, hw6, hct, hig, hth, hoa, hob9, hm120, hs, hob, hMI, hRF, hRD, hRJ, mNk, mNw, mNt, mNi, mNh, mNm, mTp, mPl, mRc, mJ, rDat, rNow, rGo, rCo, rOf⟩ := h
  exact c mAd mIv mFn k nt oa ob th ig w mm L ln M r1 r2 r3 r4 r5 r6 r7 r8 r9 r10 r11 TQ o hW hk htl hw6 hct hig hth hoa hob9 hm120 hs hob hMI hRF hRD hRJ mNk mNw mNt mNi mNh mNm mTp mPl mRc mJ rDat rNow rGo rCo rOf
set_option maxRecDepth 100000 in
theorem im_O {g : he_G} {m0 : Nat} {S : AbS} {t : Int32} {W : va_W} (h : IM g m0 S t W) : okO S.2.2.2.2 := by
  refine IM.elim h ?_
  intro mAd mIv mFn k nt oa ob th ig w mm L ln M r1 r2 r3 r4 r5 r6 r7 r8 r9 r10 r11 TQ o hW9 hk htl hw6 hct hig hth hoa hob9 hm120 hs hob hMI hRF hRD hRJ mNk mNw mNt mNi mNh mNm mTp mPl mRc mJ rDat rNow rGo rCo rOf
  exact fun d9 hd9 m9 hm9 => ⟨o d9 m9, hob d9 m9, (rOf d9 hd9 m9 hm9).symm.trans (hMI.2.2.2.2.1 d9 hd9 m9 hm9)⟩
theorem sOk_N {nt t : Nat} {TQ : Nat → Nat} {f : Nat → Int32} (h : sOk nt TQ t f) : sOk nt TQ t (sgF f (-1)) := ⟨by rw [sg_24]; exact h.1, Or.inl (sgF_10 _ _)⟩
theorem sOk_C {nt t ci : Nat} {TQ : Nat → Nat} {f : Nat → Int32} (h : sOk nt TQ t f) (hc : ci < nt) (hn : nt ≤ 6) (hq : 0 < TQ ci) : sOk nt TQ t (sgF f (nI ci)) := sOk_in (it := 0) hc (by rw [sg_24]; exact h.1) (sg_in (by omega) hq)
theorem kOk_u {r7 : Nat → Nat} {M : Nat → Nat → Int32} {i : Nat} {x y : Int32} (h : kOk r7 M) (hx : ∃ a : Nat, 1 ≤ a ∧ a ≤ 16 ∧ x = nI a) (hy : ∃ a : Nat, 1 ≤ a ∧ a ≤ 16 ∧ y = nI a) : kOk r7 (va_up M (r7 i) (upd (upd (M (r7 i)) 0 x) 1 y)) := by
  intro j hj
  by_cases e : r7 j = r7 i
  · rw [e, mv_in]; exact p16_up hx hy
  · rw [mv_out e]; exact h j hj
theorem tOk_u {r8 : Nat → Nat} {M : Nat → Nat → Int32} {th : Nat} {x y : Int32} (h : tOk r8 M th) (hx : ∃ a : Nat, 1 ≤ a ∧ a ≤ 16 ∧ x = nI a) (hy : ∃ a : Nat, 1 ≤ a ∧ a ≤ 16 ∧ y = nI a) : tOk r8 (va_up M (r8 th) (upd (upd (M (r8 th)) 0 x) 1 y)) (th + 1) := by
  intro j hj
  by_cases e : r8 j = r8 th
  · rw [e, mv_in]; exact p16_up hx hy
  · rw [mv_out e]; exact h j (by rcases Nat.lt_or_ge j th with q | q; exact q; exact absurd (by rw [show j = th by omega]) e)
theorem i3_lt {x : Int32} (h : ¬ he_within x 0 3 = 0) : x.toNatClampNeg < 4 := Nat.lt_of_le_of_lt (he_within_nat (B := 3) rfl (by decide) h).2 (by decide)
theorem w15a {x : Int32} (h : ¬ he_within x 1 15 = 0) : ∃ a : Nat, 1 ≤ a ∧ a ≤ 16 ∧ x = nI a := by
  obtain ⟨a, e, h1, h2⟩ := wi_nat (A := 1) (B := 15) rfl rfl (by decide) (by decide) h
  exact ⟨a, h1, by omega, e⟩
theorem w15b {x : Int32} (h : ¬ he_within x 1 15 = 0) : ∃ a : Nat, 1 ≤ a ∧ a ≤ 16 ∧ 16 - x = nI a := by
  obtain ⟨a, e, h1, h2⟩ := wi_nat (A := 1) (B := 15) rfl rfl (by decide) (by decide) h
  exact ⟨16 - a, by omega, by omega, by rw [e]; exact pk_sub (a := 16) (b := a) (by omega)⟩
theorem oOk_u {r9 : Nat → Nat} {o : Nat → Nat → Nat} {M : Nat → Nat → Int32} {d j v : Nat} (hinj : ∀ a b, a < 2 → b < 2 → r9 a = r9 b → a = b) (hd : d < 2) (h : oOk r9 o M) : oOk r9 (fun a b => if a = d ∧ b = j then v else o a b) (va_up M (r9 d) (upd (M (r9 d)) j (nI v))) := by
  intro a ha b hb
  dsimp only
  by_cases e : a = d
  · subst e
    rw [mv_in]
    unfold upd
    by_cases q : b = j
    · rw [if_pos q, if_pos ⟨rfl, q⟩]
    · rw [if_neg q, if_neg (fun h9 => q h9.2)]; exact h a ha b hb
  · rw [mv_out (fun h9 => e (hinj a d ha hd h9)), if_neg (fun h9 => e h9.1)]; exact h a ha b hb
theorem MI_new {TQ r3 r4 r5 r7 r8 r9 r10 : Nat → Nat} {M : Nat → Nat → Int32} (h : rNew r7 r9 M) : MI 0 TQ (fun _ _ => 0) 0 0 0 r3 r4 r5 r7 r8 r9 r10 M := by
  refine ⟨fun c hc => absurd hc (Nat.not_lt_zero c), fun c hc => absurd hc (Nat.not_lt_zero c), fun i hi => ⟨⟨8, by decide, by decide, h.1 i hi 0 (by decide)⟩, ⟨8, by decide, by decide, h.1 i hi 1 (by decide)⟩⟩, fun c hc => absurd hc (Nat.not_lt_zero c), fun d hd m hm => h.2 d hd m hm, fun c hc => absurd hc (Nat.not_lt_zero c)⟩
theorem conAll_n {r3 r4 TQ : Nat → Nat} {nt q5 : Nat} {M M2 : Nat → Nat → Int32} (h : conAll r3 r4 TQ M nt) (hn : nt < 6) (hJ3 : ∀ a b, a < 7 → b < 7 → r3 a = r3 b → a = b) (hJ4 : ∀ a b, a < 7 → b < 7 → r4 a = r4 b → a = b) (hD : ∀ i j, i < 7 → j < 7 → r3 i ≠ r4 j) (hc : cOk (M2 (r3 nt))) (hb : bOk (M2 (r4 nt))) (hx : ∀ a, a ≠ r3 nt → a ≠ r4 nt → M2 a = M a) (h5 : M2 (r3 nt) 5 = nI q5) (hq1 : 1 ≤ q5) (hq2 : q5 ≤ 36) : conAll r3 r4 (fun c => if c = nt then q5 else TQ c) M2 (nt + 1) := by
  intro c hcn
  by_cases e : c = nt
  · subst e
    dsimp only
    rw [if_pos rfl]
    exact ⟨hb, hc.1, hc.2.1, h5, hq1, hq2⟩
  · dsimp only
    rw [if_neg e, hx (r3 c) (fun h9 => e (hJ3 c nt (by omega) (by omega) h9)) (hD c nt (by omega) (by omega)), hx (r4 c) (fun h9 => hD nt c (by omega) (by omega) h9.symm) (fun h9 => e (hJ4 c nt (by omega) (by omega) h9))]
    exact h c (by omega)
/-- what lies there, place by place -/
def stV (oa ob th : Nat) (f : Nat → Int32) (M : Nat → Nat → Int32) (r5 r6 r7 r8 r9 : Nat → Nat) (q : Nat) : Int32 := if q = 0 then nI oa else if q = 1 then nI ob else if q = 2 then nI th else if q < 11 then M (r7 ((q - 3) / 2)) ((q - 3) % 2) else if q < 35 then M (r8 ((q - 11) / 2)) ((q - 11) % 2) else if q < 59 then M (r9 ((q - 35) % 2)) ((q - 35) / 2) else if q < 84 then f (q - 59) else if q < 3109 then M (r5 ((q - 84) / 25)) ((q - 84) % 25) else M (r6 ((q - 3109) / 6)) ((q - 3109) % 6)
section STV
variable {oa ob th : Nat} {f : Nat → Int32} {M : Nat → Nat → Int32} {r5 r6 r7 r8 r9 : Nat → Nat}
theorem stV_7 (k i : Nat) (hk : k < 4) (hi : i < 2) : stV oa ob th f M r5 r6 r7 r8 r9 (3 + k * 2 + i) = M (r7 k) i := by
  unfold stV
  rw [if_neg (by omega), if_neg (by omega), if_neg (by omega), if_pos (by omega), show (3 + k * 2 + i - 3) / 2 = k by omega, show (3 + k * 2 + i - 3) % 2 = i by omega]
theorem stV_8 (k i : Nat) (hk : k < 12) (hi : i < 2) : stV oa ob th f M r5 r6 r7 r8 r9 (11 + k * 2 + i) = M (r8 k) i := by
  unfold stV
  rw [if_neg (by omega), if_neg (by omega), if_neg (by omega), if_neg (by omega), if_pos (by omega), show (11 + k * 2 + i - 11) / 2 = k by omega, show (11 + k * 2 + i - 11) % 2 = i by omega]
theorem stV_9 (k i : Nat) (hk : k < 12) (hi : i < 2) : stV oa ob th f M r5 r6 r7 r8 r9 (35 + k * 2 + i) = M (r9 i) k := by
  unfold stV
  rw [if_neg (by omega), if_neg (by omega), if_neg (by omega), if_neg (by omega), if_neg (by omega), if_pos (by omega), show (35 + k * 2 + i - 35) / 2 = k by omega, show (35 + k * 2 + i - 35) % 2 = i by omega]
theorem stV_s (k : Nat) (hk : k < 25) : stV oa ob th f M r5 r6 r7 r8 r9 (59 + k) = f k := by
  unfold stV
  rw [if_neg (by omega), if_neg (by omega), if_neg (by omega), if_neg (by omega), if_neg (by omega), if_neg (by omega), if_pos (by omega), show 59 + k - 59 = k by omega]
theorem stV_5 (k i : Nat) (hk : k < 121) (hi : i < 25) : stV oa ob th f M r5 r6 r7 r8 r9 (84 + k * 25 + i) = M (r5 k) i := by
  unfold stV
  rw [if_neg (by omega), if_neg (by omega), if_neg (by omega), if_neg (by omega), if_neg (by omega), if_neg (by omega), if_neg (by omega), if_pos (by omega), show (84 + k * 25 + i - 84) / 25 = k by omega, show (84 + k * 25 + i - 84) % 25 = i by omega]
theorem stV_6 (k i : Nat) (hk : k < 120) (hi : i < 6) : stV oa ob th f M r5 r6 r7 r8 r9 (3109 + k * 6 + i) = M (r6 k) i := by
  unfold stV
  rw [if_neg (by omega), if_neg (by omega), if_neg (by omega), if_neg (by omega), if_neg (by omega), if_neg (by omega), if_neg (by omega), if_neg (by omega), show (3109 + k * 6 + i - 3109) / 6 = k by omega, show (3109 + k * 6 + i - 3109) % 6 = i by omega]
theorem p16_at {h : Nat → Int32} (hp : p16 h) (i : Nat) (hi : i < 2) : ∃ a : Nat, 1 ≤ a ∧ a ≤ 16 ∧ h i = nI a := by
  rcases (show i = 0 ∨ i = 1 by omega) with rfl | rfl
  · exact hp.1
  · exact hp.2
/-- the image of a good state is a good row -/
theorem kp_img {nt mm : Nat} {TQ : Nat → Nat} {o : Nat → Nat → Nat} {g : Nat → Int32} (hoa : 1 ≤ oa ∧ oa ≤ 99) (hob : 1 ≤ ob ∧ ob ≤ 99) (hth : th ≤ 12) (hm : mm ≤ 120) (hs : sOk nt TQ mm f) (hg : gOk nt TQ r5 M mm) (hk : kOk r7 M) (ht : tOk r8 M th) (ho : oOk r9 o M) (hob2 : ∀ d m, o d m ≤ 999) : kpOk nt TQ (flF (stV oa ob th f M r5 r6 r7 r8 r9) g 3829) := by
  have e : ∀ q, q < 3829 → flF (stV oa ob th f M r5 r6 r7 r8 r9) g 3829 q = stV oa ob th f M r5 r6 r7 r8 r9 q := fun q hq => by unfold flF; rw [if_pos hq]
  refine ⟨⟨oa, hoa.1, hoa.2, by rw [e 0 (by decide)]; rfl⟩, ⟨ob, hob.1, hob.2, by rw [e 1 (by decide)]; rfl⟩, ⟨th, hth, by rw [e 2 (by decide)]; rfl, fun j hj i hi => ?_⟩, fun j hj i hi => ?_, ⟨o, hob2, fun d hd m hm9 => ?_⟩, mm, hm, ?_, fun t ht9 => ?_⟩
  · rw [e _ (by omega), stV_8 j i (by omega) hi]; exact p16_at (ht j hj) i hi
  · rw [e _ (by omega), stV_7 j i hj hi]; exact p16_at (hk j hj) i hi
  · rw [e _ (by omega), stV_9 m d hm9 hd]; exact ho d hd m hm9
  · exact sOk_25 hs (fun q hq => by rw [e _ (by omega), stV_s q hq])
  · exact sOk_25 (hg t ht9) (fun q hq => by rw [e _ (by omega), stV_5 t q (by omega) hq])
end STV
theorem kOk_r {r7 : Nat → Nat} {M : Nat → Nat → Int32} {K : Nat → Int32} (h : tF r7 2 3 K M 4 0) (hk : ∀ j, j < 4 → ∀ i, i < 2 → ∃ a, 1 ≤ a ∧ a ≤ 16 ∧ K (3 + j * 2 + i) = nI a) : kOk r7 M := fun j hj => ⟨by rw [h.1 j hj 0 (by decide)]; exact hk j hj 0 (by decide), by rw [h.1 j hj 1 (by decide)]; exact hk j hj 1 (by decide)⟩
theorem tOk_r {r8 : Nat → Nat} {M : Nat → Nat → Int32} {K : Nat → Int32} {th : Nat} (hth : th ≤ 12) (h : tF r8 2 11 K M 12 0) (hk : ∀ j, j < th → ∀ i, i < 2 → ∃ a, 1 ≤ a ∧ a ≤ 16 ∧ K (11 + j * 2 + i) = nI a) : tOk r8 M th := fun j hj => ⟨by rw [h.1 j (by omega) 0 (by decide)]; exact hk j hj 0 (by decide), by rw [h.1 j (by omega) 1 (by decide)]; exact hk j hj 1 (by decide)⟩
theorem oOk_r {r9 : Nat → Nat} {M : Nat → Nat → Int32} {K : Nat → Int32} {o : Nat → Nat → Nat} (h : tG r9 2 35 K M 12 0) (hk : ∀ d, d < 2 → ∀ m, m < 12 → K (35 + m * 2 + d) = nI (o d m)) : oOk r9 o M := fun d hd m hm => by rw [h.1 m hm d hd]; exact hk d hd m hm
theorem gOk_r {nt mm : Nat} {TQ r5 : Nat → Nat} {M : Nat → Nat → Int32} {K : Nat → Int32} (hm : mm ≤ 120) (h : tF r5 25 84 K M 121 0) (hk : ∀ t, t < mm → sOk nt TQ t (fun q => K (84 + t * 25 + q))) : gOk nt TQ r5 M mm := fun t ht => sOk_25 (hk t ht) (fun q hq => h.1 t (by omega) q hq)
theorem kp_imR {q : (Nat → Nat) × Rw} {oa ob th mm : Nat} {f g : Nat → Int32} {M : Nat → Nat → Int32} {r5 r6 r7 r8 r9 : Nat → Nat} (hN : eqP mP f (q.2 5)) (hG : goR r5 r6 M mm q.2) (hO : ofR r9 M q.2) (hm : q.1 5 = mm) (h120 : mm ≤ 120) : imR q (flF (stV oa ob th f M r5 r6 r7 r8 r9) g 3829) := by
  have e : ∀ i, i < 3829 → flF (stV oa ob th f M r5 r6 r7 r8 r9) g 3829 i = stV oa ob th f M r5 r6 r7 r8 r9 i := fun i hi => by unfold flF; rw [if_pos hi]
  refine ⟨fun i hi => ?_, fun t ht => ⟨fun i hi => ?_, fun j hj => ?_⟩, fun d hd m hm9 => ?_⟩
  · rw [e _ (by omega), stV_s i (by omega)]; exact hN i hi
  · rw [e _ (by omega), stV_5 t i (by omega) (by omega)]; exact (hG t (by omega)).1 i hi
  · rw [e _ (by omega), stV_6 t j (by omega) hj]; exact (hG t (by omega)).2 j hj
  · rw [e _ (by omega), stV_9 m d hm9 hd]; exact hO d hd m hm9
theorem p83 {oa ob th : Nat} {f : Nat → Int32} {M : Nat → Nat → Int32} {r5 r6 r7 r8 r9 : Nat → Nat} {h : Nat → Int32} : flF (stV oa ob th f M r5 r6 r7 r8 r9) h 3829 83 = f 24 := by
  unfold flF
  rw [if_pos (by decide)]
  exact stV_s 24 (by decide)
