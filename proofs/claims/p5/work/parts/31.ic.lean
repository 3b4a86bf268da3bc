/-! the class as one state -/
abbrev Sc : Type := (Nat → Nat) × Nat × (Nat → Int32) × (Nat → Int64) × (Nat → Nat → Int32)
/-- an image's cells -/
def scW (g : he_G) (q : Sc) : va_W := [(q.1 0, .inr (8, [.ref (q.1 1), .ref (q.1 4), .ref (q.1 6), .ref (q.1 9)])), (q.1 1, .inr (4, [.ref (q.1 2), .ref (q.1 3), .int (nI q.2.1)])), (q.1 2, .inl (g.2 1, 24, .inl (q.2.2.2.2 0))), (q.1 3, .inl (g.2 1, 6, .inl (q.2.2.2.2 1))), (q.1 4, .inr (0, [.ref (q.1 5)])), (q.1 5, .inl (g.2 1, 3600, .inl (q.2.2.2.2 2))), (q.1 6, .inr (2, [.ref (q.1 7), .ref (q.1 8), .int (q.2.2.1 0), .int (q.2.2.1 1), .long (q.2.2.2.1 0), .long (q.2.2.2.1 1), .int (q.2.2.1 2)])), (q.1 7, .inl (g.2 1, 4, .inl (q.2.2.2.2 3))), (q.1 8, .inl (g.2 1, 4, .inl (q.2.2.2.2 4))), (q.1 9, .inr (3, [.ref (q.1 10), .ref (q.1 11)])), (q.1 10, .inl (g.2 1, 36, .inl (q.2.2.2.2 5))), (q.1 11, .inl (g.2 1, 39, .inl (q.2.2.2.2 6)))]
/-- an image as it lies there, and what it stands for -/
def imL (q : Sc) (im : (Nat → Nat) × (Nat → Nat → Int32)) : Prop := q.2.1 = im.1 5 ∧ q.2.2.1 2 = nI (im.1 4) ∧ im.1 4 ≤ 12 ∧ nowC (im.1 5) (q.2.2.2.2 0) (im.2 5) ∧ lnC (q.2.2.2.2 2) (im.1 5) im.2 ∧ ofC (q.2.2.2.2 5) im.2
/-- the images that were made, and how many of them count -/
def IT (g : he_G) (imf : Nat → Option Nat) (nk : Nat) (J : Nat → (Nat → Nat) × (Nat → Nat → Int32)) (T : va_W) : Prop := ∃ Ls : List Sc, Ls.length ≤ 3 ∧ nk ≤ Ls.length ∧ T = Ls.flatMap (scW g) ∧ (∀ j, j < 3 → imf j = Ls[j]?.map (fun q => q.1 0)) ∧ (∀ q ∈ Ls, q.2.1 ≤ 120) ∧ ∀ j, j < nk → ∀ q, Ls[j]? = some q → imL q (J j)
theorem IT_0 {g : he_G} {imf : Nat → Option Nat} {nk : Nat} {J J2 : Nat → (Nat → Nat) × (Nat → Nat → Int32)} {T : va_W} (h : IT g imf nk J T) : IT g imf 0 J2 T := by
  obtain ⟨Ls, h1, h2, h3, h4, h5, h6⟩ := h
  exact ⟨Ls, h1, Nat.zero_le _, h3, h4, h5, fun j hj => absurd hj (Nat.not_lt_zero j)⟩
theorem IT_le {g : he_G} {imf : Nat → Option Nat} {nk : Nat} {J : Nat → (Nat → Nat) × (Nat → Nat → Int32)} {T : va_W} (h : IT g imf nk J T) : nk ≤ 3 := by
  obtain ⟨Ls, h1, h2, h3⟩ := h
  omega
/-- an image at its place -/
theorem IT_at {g : he_G} {imf : Nat → Option Nat} {nk j : Nat} {J : Nat → (Nat → Nat) × (Nat → Nat → Int32)} {T : va_W} (h : IT g imf nk J T) (hj : j < 3) (hs : imf j ≠ none) : ∃ (q : Sc) (R : va_W), T.Perm (scW g q ++ R) ∧ imf j = some (q.1 0) ∧ q.2.1 ≤ 120 ∧ (j < nk → imL q (J j)) ∧ ∀ (q2 : Sc) (n2 : Nat) (J2 : Nat → (Nat → Nat) × (Nat → Nat → Int32)), q2.1 0 = q.1 0 → q2.2.1 ≤ 120 → (n2 ≤ j + 1 ∨ n2 ≤ nk) → imL q2 (J2 j) → (∀ i, i < n2 → i ≠ j → i < nk ∧ J2 i = J i) → ∃ T2, T2.Perm (scW g q2 ++ R) ∧ IT g imf n2 J2 T2 := by
  obtain ⟨Ls, h1, h2, rfl, h4, h5, h6⟩ := h
  cases hq : Ls[j]? with
  | none => rw [h4 j hj, hq] at hs; exact absurd rfl hs
  | some q =>
    obtain ⟨hlt, hqe⟩ := List.getElem?_eq_some_iff.mp hq
    have hsp : Ls = Ls.take j ++ (q :: Ls.drop (j + 1)) := by rw [← hqe, List.getElem_cons_drop]; exact (List.take_append_drop j Ls).symm
    have hlen : (Ls.take j).length = j := by rw [List.length_take]; omega
    have perm : ∀ q2 : Sc, ((Ls.take j ++ (q2 :: Ls.drop (j + 1))).flatMap (scW g)).Perm (scW g q2 ++ ((Ls.take j).flatMap (scW g) ++ (Ls.drop (j + 1)).flatMap (scW g))) := by
      intro q2
      rw [List.flatMap_append, List.flatMap_cons, ← List.append_assoc, ← List.append_assoc]
      exact List.Perm.append_right _ List.perm_append_comm
    refine ⟨q, (Ls.take j).flatMap (scW g) ++ (Ls.drop (j + 1)).flatMap (scW g), ?_, by rw [h4 j hj, hq]; rfl, h5 q (List.mem_of_getElem? hq), fun h9 => h6 j h9 q hq, ?_⟩
    · have := perm q
      rw [← hsp] at this
      exact this
    · intro q2 n2 J2 e1 e2 hn hL hJ
      have hlq : (Ls.take j ++ (q2 :: Ls.drop (j + 1))).length = Ls.length := by rw [List.length_append, List.length_cons, hlen, List.length_drop]; omega
      have hat : ∀ i, i ≠ j → (Ls.take j ++ (q2 :: Ls.drop (j + 1)))[i]? = Ls[i]? := by
        intro i hi
        rcases Nat.lt_trichotomy i j with c | c | c
        · rw [List.getElem?_append_left (by omega), List.getElem?_take_of_lt c]
        · exact absurd c hi
        · rw [List.getElem?_append_right (by omega), hlen]
          obtain ⟨d, rfl⟩ : ∃ d, i = j + 1 + d := ⟨i - (j + 1), by omega⟩
          rw [show j + 1 + d - j = d + 1 by omega, List.getElem?_cons_succ, List.getElem?_drop]
      have hatj : (Ls.take j ++ (q2 :: Ls.drop (j + 1)))[j]? = some q2 := by rw [List.getElem?_append_right (by omega), hlen, Nat.sub_self]; rfl
      refine ⟨_, perm q2, Ls.take j ++ (q2 :: Ls.drop (j + 1)), by omega, by omega, rfl, ?_, ?_, ?_⟩
      · intro i hi
        by_cases c : i = j
        · rw [c, h4 j hj, hatj, hq]
          exact congrArg some e1.symm
        · rw [h4 i hi, hat i c]
      · intro z hz
        rcases List.mem_append.mp hz with c | c
        · exact h5 z (List.mem_of_mem_take c)
        · rcases List.mem_cons.mp c with c | c
          · rw [c]; exact e2
          · exact h5 z (List.mem_of_mem_drop c)
      · intro i hi z hz
        by_cases c : i = j
        · rw [c, hatj] at hz
          cases hz
          rw [c]
          exact hL
        · rw [hat i c] at hz
          obtain ⟨c1, c2⟩ := hJ i hi c
          rw [c2]
          exact h6 i c1 z hz
/-- a new image behind the others -/
theorem IT_new {g : he_G} {imf : Nat → Option Nat} {nk : Nat} {J J2 : Nat → (Nat → Nat) × (Nat → Nat → Int32)} {T : va_W} (h : IT g imf nk J T) (hk : nk < 3) (hs : imf nk = none) (q : Sc) (hq : q.2.1 ≤ 120) (hL : imL q (J2 nk)) (hJ : ∀ i, i < nk → J2 i = J i) : IT g (va_up imf nk (some (q.1 0))) (nk + 1) J2 (T ++ scW g q) := by
  obtain ⟨Ls, h1, h2, rfl, h4, h5, h6⟩ := h
  have hl : Ls.length = nk := by
    have := h4 nk hk
    rw [hs] at this
    cases hq9 : Ls[nk]? with
    | none => have := List.getElem?_eq_none_iff.mp hq9; omega
    | some z => rw [hq9] at this; exact absurd this.symm (by simp)
  refine ⟨Ls ++ [q], by rw [List.length_append, hl]; exact hk, by rw [List.length_append, hl]; exact Nat.le_refl _, by rw [List.flatMap_append]; simp, ?_, ?_, ?_⟩
  · intro j hj
    unfold va_up
    by_cases e : j = nk
    · rw [if_pos e, List.getElem?_append_right (by omega), e, hl, Nat.sub_self]; rfl
    · rw [if_neg e, h4 j hj]
      rcases Nat.lt_or_ge j nk with c | c
      · rw [List.getElem?_append_left (by omega)]
      · rw [List.getElem?_append_right (by omega), List.getElem?_eq_none (by omega), List.getElem?_eq_none (by rw [List.length_singleton]; omega)]
  · intro z hz
    rcases List.mem_append.mp hz with c | c
    · exact h5 z c
    · rw [List.mem_singleton.mp c]; exact hq
  · intro i hi z hz
    rcases Nat.lt_or_ge i nk with c | c
    · rw [List.getElem?_append_left (by omega)] at hz
      rw [hJ i c]
      exact h6 i c z hz
    · obtain rfl : i = nk := by omega
      rw [List.getElem?_append_right (by omega), hl, Nat.sub_self] at hz
      cases hz
      exact hL
set_option maxRecDepth 100000 in
def IC (g : he_G) (x0 : Nat) (S : AbS) (W : va_W) : Prop := ∃ cAd : Nat → Nat, ∃ cIv : Nat → Int32, ∃ cLv : Nat → Int64, ∃ cFn : Nat → Nat → Int32, ∃ k : Nat, ∃ w : Nat, ∃ nt : Nat, ∃ nk : Nat, ∃ mo : Nat, ∃ pf : Nat → Option Nat, ∃ imf : Nat → Option Nat, ∃ T : va_W, W = [(oX10 x0 (cAd 0) (nI k) (cAd 1) (cAd 4) (cAd 9) (cAd 14) (nI nt) (cAd 15) (cAd 27) (nI nk) (cAd 28) (cAd 31) (cAd 35)), (aB g (cAd 0) 500 (cFn 0)), (oX7 (cAd 1) (cAd 3) (cIv 0) (cIv 1) (cIv 2) (cIv 3) (cAd 2)), (aI g (cAd 2) 3 (cFn 1)), (oX6 (cAd 4) (cAd 5) (cAd 6) (cAd 7) (cAd 8) (nI w)), (aI g (cAd 5) 24 (cFn 2)), (aI g (cAd 6) 10 (cFn 3)), (aI g (cAd 7) 6 (cFn 4)), (aI g (cAd 8) 6 (cFn 5)), (oX6 (cAd 9) (cAd 10) (cAd 11) (cAd 12) (cAd 13) (cIv 4)), (aI g (cAd 10) 24 (cFn 6)), (aI g (cAd 11) 10 (cFn 7)), (aI g (cAd 12) 6 (cFn 8)), (aI g (cAd 13) 6 (cFn 9)), (aP g (cAd 14) 7 pf), (oX8 (cAd 15) (cAd 16) (cAd 19) (cAd 21) (cAd 24)), (oX4 (cAd 16) (cAd 17) (cAd 18) (nI mo)), (aI g (cAd 17) 24 (cFn 10)), (aI g (cAd 18) 6 (cFn 11)), (oX0 (cAd 19) (cAd 20)), (aI g (cAd 20) 3600 (cFn 12)), (oX2 (cAd 21) (cAd 22) (cAd 23) (cIv 5) (cIv 6) (cLv 0) (cLv 1) (cIv 7)), (aI g (cAd 22) 4 (cFn 13)), (aI g (cAd 23) 4 (cFn 14)), (oX3 (cAd 24) (cAd 25) (cAd 26)), (aI g (cAd 25) 36 (cFn 15)), (aI g (cAd 26) 39 (cFn 16)), (aS g (cAd 27) 3 imf), (oX4 (cAd 28) (cAd 29) (cAd 30) (cIv 8)), (aI g (cAd 29) 24 (cFn 17)), (aI g (cAd 30) 6 (cFn 18)), (oX1 (cAd 31) (cAd 32) (cAd 33) (cAd 34) (cIv 9) (cIv 10)), (aI g (cAd 32) 3 (cFn 19)), (aI g (cAd 33) 3 (cFn 20)), (aI g (cAd 34) 3 (cFn 21)), (aI g (cAd 35) 3 (cFn 22)), (oX5 (cAd 36) (cAd 37) (cAd 38) (cIv 11)), (aI g (cAd 37) 6 (cFn 23)), (aI g (cAd 38) 36 (cFn 24)), (oX5 (cAd 39) (cAd 40) (cAd 41) (cIv 12)), (aI g (cAd 40) 6 (cFn 25)), (aI g (cAd 41) 36 (cFn 26)), (oX5 (cAd 42) (cAd 43) (cAd 44) (cIv 13)), (aI g (cAd 43) 6 (cFn 27)), (aI g (cAd 44) 36 (cFn 28)), (oX5 (cAd 45) (cAd 46) (cAd 47) (cIv 14)), (aI g (cAd 46) 6 (cFn 29)), (aI g (cAd 47) 36 (cFn 30)), (oX5 (cAd 48) (cAd 49) (cAd 50) (cIv 15)), (aI g (cAd 49) 6 (cFn 31)), (aI g (cAd 50) 36 (cFn 32)), (oX5 (cAd 51) (cAd 52) (cAd 53) (cIv 16)), (aI g (cAd 52) 6 (cFn 33)), (aI g (cAd 53) 36 (cFn 34)), (oX5 (cAd 54) (cAd 55) (cAd 56) (cIv 17)), (aI g (cAd 55) 6 (cFn 35)), (aI g (cAd 56) 36 (cFn 36))] ++ T ∧ k ≤ 500 ∧ w ≤ 6 ∧ nt ≤ 6 ∧ mo ≤ 120 ∧ pf 0 = some (cAd 36) ∧ (∃ ck, ck ≤ 99 ∧ (cFn 23) 3 = nI ck) ∧ (∀ k, k < 36 → -1 ≤ (cFn 24) k) ∧ pf 1 = some (cAd 39) ∧ (∃ ck, ck ≤ 99 ∧ (cFn 25) 3 = nI ck) ∧ (∀ k, k < 36 → -1 ≤ (cFn 26) k) ∧ pf 2 = some (cAd 42) ∧ (∃ ck, ck ≤ 99 ∧ (cFn 27) 3 = nI ck) ∧ (∀ k, k < 36 → -1 ≤ (cFn 28) k) ∧ pf 3 = some (cAd 45) ∧ (∃ ck, ck ≤ 99 ∧ (cFn 29) 3 = nI ck) ∧ (∀ k, k < 36 → -1 ≤ (cFn 30) k) ∧ pf 4 = some (cAd 48) ∧ (∃ ck, ck ≤ 99 ∧ (cFn 31) 3 = nI ck) ∧ (∀ k, k < 36 → -1 ≤ (cFn 32) k) ∧ pf 5 = some (cAd 51) ∧ (∃ ck, ck ≤ 99 ∧ (cFn 33) 3 = nI ck) ∧ (∀ k, k < 36 → -1 ≤ (cFn 34) k) ∧ pf 6 = some (cAd 54) ∧ (∃ ck, ck ≤ 99 ∧ (cFn 35) 3 = nI ck) ∧ (∀ k, k < 36 → -1 ≤ (cFn 36) k) ∧ S.1 0 = k ∧ S.1 1 = w ∧ S.1 2 = nt ∧ S.1 3 = nk ∧ (cIv 7) = nI (S.1 4) ∧ S.1 4 ≤ 12 ∧ S.1 5 = mo ∧ (∀ j, j < k → S.2.1 j < 256 ∧ (cFn 0) j = sbI (S.2.1 j)) ∧ (cIv 3) = S.2.2.1 0 0 ∧ (∀ i, i < 3 → (cFn 22) i = S.2.2.1 1 i) ∧ datC w (cFn 2) (cFn 3) (cFn 4) (cFn 5) S.2.2.2.2 ∧ nowC mo (cFn 10) (S.2.2.2.2 5) ∧ lnC (cFn 12) mo S.2.2.2.2 ∧ (0 < nt → conC (cFn 23) (cFn 24) (S.2.2.2.2 10) (S.2.2.2.2 20)) ∧ (1 < nt → conC (cFn 25) (cFn 26) (S.2.2.2.2 11) (S.2.2.2.2 21)) ∧ (2 < nt → conC (cFn 27) (cFn 28) (S.2.2.2.2 12) (S.2.2.2.2 22)) ∧ (3 < nt → conC (cFn 29) (cFn 30) (S.2.2.2.2 13) (S.2.2.2.2 23)) ∧ (4 < nt → conC (cFn 31) (cFn 32) (S.2.2.2.2 14) (S.2.2.2.2 24)) ∧ (5 < nt → conC (cFn 33) (cFn 34) (S.2.2.2.2 15) (S.2.2.2.2 25)) ∧ ofC (cFn 15) S.2.2.2.2 ∧ (∀ b, b < 3 → (cFn 16) (36 + b) = 0) ∧ IT g imf nk S.2.2.2.1 T
set_option maxRecDepth 100000 in
theorem IC.elim {g : he_G} {x0 : Nat} {S : AbS} {W : va_W} {C : Prop} (h : IC g x0 S W) (c : ∀ cAd : Nat → Nat, ∀ cIv : Nat → Int32, ∀ cLv : Nat → Int64, ∀ cFn : Nat → Nat → Int32, ∀ k : Nat, ∀ w : Nat, ∀ nt : Nat, ∀ nk : Nat, ∀ mo : Nat, ∀ pf : Nat → Option Nat, ∀ imf : Nat → Option Nat, ∀ T : va_W, W = [(oX10 x0 (cAd 0) (nI k) (cAd 1) (cAd 4) (cAd 9) (cAd 14) (nI nt) (cAd 15) (cAd 27) (nI nk) (cAd 28) (cAd 31) (cAd 35)), (aB g (cAd 0) 500 (cFn 0)), (oX7 (cAd 1) (cAd 3) (cIv 0) (cIv 1) (cIv 2) (cIv 3) (cAd 2)), (aI g (cAd 2) 3 (cFn 1)), (oX6 (cAd 4) (cAd 5) (cAd 6) (cAd 7) (cAd 8) (nI w)), (aI g (cAd 5) 24 (cFn 2)), (aI g (cAd 6) 10 (cFn 3)), (aI g (cAd 7) 6 (cFn 4)), (aI g (cAd 8) 6 (cFn 5)), (oX6 (cAd 9) (cAd 10) (cAd 11) (cAd 12) (cAd 13) (cIv 4)), (aI g (cAd 10) 24 (cFn 6)), (aI g (cAd 11) 10 (cFn 7)), (aI g (cAd 12) 6 (cFn 8)), (aI g (cAd 13) 6 (cFn 9)), (aP g (cAd 14) 7 pf), (oX8 (cAd 15) (cAd 16) (cAd 19) (cAd 21) (cAd 24)), (oX4 (cAd 16) (cAd 17) (cAd 18) (nI mo)), (aI g (cAd 17) 24 (cFn 10)), (aI g (cAd 18) 6 (cFn 11)), (oX0 (cAd 19) (cAd 20)), (aI g (cAd 20) 3600 (cFn 12)), (oX2 (cAd 21) (cAd 22) (cAd 23) (cIv 5) (cIv 6) (cLv 0) (cLv 1) (cIv 7)), (aI g (cAd 22) 4 (cFn 13)), (aI g (cAd 23) 4 (cFn 14)), (oX3 (cAd 24) (cAd 25) (cAd 26)), (aI g (cAd 25) 36 (cFn 15)), (aI g (cAd 26) 39 (cFn 16)), (aS g (cAd 27) 3 imf), (oX4 (cAd 28) (cAd 29) (cAd 30) (cIv 8)), (aI g (cAd 29) 24 (cFn 17)), (aI g (cAd 30) 6 (cFn 18)), (oX1 (cAd 31) (cAd 32) (cAd 33) (cAd 34) (cIv 9) (cIv 10)), (aI g (cAd 32) 3 (cFn 19)), (aI g (cAd 33) 3 (cFn 20)), (aI g (cAd 34) 3 (cFn 21)), (aI g (cAd 35) 3 (cFn 22)), (oX5 (cAd 36) (cAd 37) (cAd 38) (cIv 11)), (aI g (cAd 37) 6 (cFn 23)), (aI g (cAd 38) 36 (cFn 24)), (oX5 (cAd 39) (cAd 40) (cAd 41) (cIv 12)), (aI g (cAd 40) 6 (cFn 25)), (aI g (cAd 41) 36 (cFn 26)), (oX5 (cAd 42) (cAd 43) (cAd 44) (cIv 13)), (aI g (cAd 43) 6 (cFn 27)), (aI g (cAd 44) 36 (cFn 28)), (oX5 (cAd 45) (cAd 46) (cAd 47) (cIv 14)), (aI g (cAd 46) 6 (cFn 29)), (aI g (cAd 47) 36 (cFn 30)), (oX5 (cAd 48) (cAd 49) (cAd 50) (cIv 15)), (aI g (cAd 49) 6 (cFn 31)), (aI g (cAd 50) 36 (cFn 32)), (oX5 (cAd 51) (cAd 52) (cAd 53) (cIv 16)), (aI g (cAd 52) 6 (cFn 33)), (aI g (cAd 53) 36 (cFn 34)), (oX5 (cAd 54) (cAd 55) (cAd 56) (cIv 17)), (aI g (cAd 55) 6 (cFn 35)), (aI g (cAd 56) 36 (cFn 36))] ++ T → (k ≤ 500) → (w ≤ 6) → (nt ≤ 6) → (mo ≤ 120) → (pf 0 = some (cAd 36)) → (∃ ck, ck ≤ 99 ∧ (cFn 23) 3 = nI ck) → (∀ k, k < 36 → -1 ≤ (cFn 24) k) → (pf 1 = some (cAd 39)) → (∃ ck, ck ≤ 99 ∧ (cFn 25) 3 = nI ck) → (∀ k, k < 36 → -1 ≤ (cFn 26) k) → (pf 2 = some (cAd 42)) → (∃ ck, ck ≤ 99 ∧ (cFn 27) 3 = nI ck) → (∀ k, k < 36 → -1 ≤ (cFn 28) k) → (pf 3 = some (cAd 45)) → (∃ ck, ck ≤ 99 ∧ (cFn 29) 3 = nI ck) → (∀ k, k < 36 → -1 ≤ (cFn 30) k) → (pf 4 = some (cAd 48)) → (∃ ck, ck ≤ 99 ∧ (cFn 31) 3 = nI ck) → (∀ k, k < 36 → -1 ≤ (cFn 32) k) → (pf 5 = some (cAd 51)) → (∃ ck, ck ≤ 99 ∧ (cFn 33) 3 = nI ck) → (∀ k, k < 36 → -1 ≤ (cFn 34) k) → (pf 6 = some (cAd 54)) → (∃ ck, ck ≤ 99 ∧ (cFn 35) 3 = nI ck) → (∀ k, k < 36 → -1 ≤ (cFn 36) k) → (S.1 0 = k) → (S.1 1 = w) → (S.1 2 = nt) → (S.1 3 = nk) → ((cIv 7) = nI (S.1 4)) → (S.1 4 ≤ 12) → (S.1 5 = mo) → (∀ j, j < k → S.2.1 j < 256 ∧ (cFn 0) j = sbI (S.2.1 j)) → ((cIv 3) = S.2.2.1 0 0) → (∀ i, i < 3 → (cFn 22) i = S.2.2.1 1 i) → (datC w (cFn 2) (cFn 3) (cFn 4) (cFn 5) S.2.2.2.2) → (nowC mo (cFn 10) (S.2.2.2.2 5)) → (lnC (cFn 12) mo S.2.2.2.2) → (0 < nt → conC (cFn 23) (cFn 24) (S.2.2.2.2 10) (S.2.2.2.2 20)) → (1 < nt → conC (cFn 25) (cFn 26) (S.2.2.2.2 11) (S.2.2.2.2 21)) → (2 < nt → conC (cFn 27) (cFn 28) (S.2.2.2.2 12) (S.2.2.2.2 22)) → (3 < nt → conC (cFn 29) (cFn 30) (S.2.2.2.2 13) (S.2.2.2.2 23)) → (4 < nt → conC (cFn 31) (cFn 32) (S.2.2.2.2 14) (S.2.2.2.2 24)) → (5 < nt → conC (cFn 33) (cFn 34) (S.2.2.2.2 15) (S.2.2.2.2 25)) → (ofC (cFn 15) S.2.2.2.2) → (∀ b, b < 3 → (cFn 16) (36 + b) = 0) → (IT g imf nk S.2.2.2.1 T) → C) : C := by
  obtain ⟨cAd, cIv, cLv, cFn, k, w, nt, nk, mo, pf, imf, T, hW, hk, hw6, hnt, hmo, hpf0, hpd0, hwb0, hpf1, hpd1, hwb1, hpf2, hpd2, hwb2, hpf3, hpd3, hwb3, hpf4, hpd4, hwb4, hpf5, hpd5, hwb5, hpf6, hpd6, hwb6, hNk, hNw, hNt, hNi, hNh, hN12, hNm, hTp, hPl, hRc, hDat, hNow, hLn, hCo0, hCo1, hCo2, hCo3, hCo4, hCo5, hOf, hRe, hIT⟩ := h
  exact c cAd cIv cLv cFn k w nt nk mo pf imf T hW hk hw6 hnt hmo hpf0 hpd0 hwb0 hpf1 hpd1 hwb1 hpf2 hpd2 hwb2 hpf3 hpd3 hwb3 hpf4 hpd4 hwb4 hpf5 hpd5 hwb5 hpf6 hpd6 hwb6 hNk hNw hNt hNi hNh hN12 hNm hTp hPl hRc hDat hNow hLn hCo0 hCo1 hCo2 hCo3 hCo4 hCo5 hOf hRe hIT
set_option maxRecDepth 100000 in
theorem IC.head {g : he_G} {x0 : Nat} {S : AbS} {W : va_W} (h : IC g x0 S W) : ∃ fx R, W = (x0, .inr (9, fx)) :: R := by
  obtain ⟨cAd, cIv, cLv, cFn, k, w, nt, nk, mo, pf, imf, T, rfl, -⟩ := h
  exact ⟨_, _, rfl⟩
theorem pm_ixn {X Y : va_W} (n : Nat) (is : List Nat) (hp : is.isPerm (List.range n) = true) (hn : X.length = n) (h : is.map (fun i => X[i]?) = Y.map some) : Y.Perm X := pm_ix is (by rw [hn]; exact hp) h
theorem coO_of {co : Nat → Int32} {R : Rw} (h : ofC co R) (hO : okO R) : coO co (oA R) := by
  intro m hm v hv
  obtain ⟨h0, h1, h2⟩ := h m hm
  rcases (show v = 0 ∨ v = 1 ∨ v = 2 by omega) with rfl | rfl | rfl
  · exact h0
  · exact h1.trans (oA_I hO (d := 0) (by decide) hm)
  · exact h2.trans (oA_I hO (d := 1) (by decide) hm)
theorem no_in {x : Int32} {B : Nat} (hB : B < 2147483648) (h : ∀ n : Nat, n ≤ B → ¬ x = nI n) : he_within x 0 (nI B) = 0 := by
  apply Decidable.byContradiction
  intro h9
  obtain ⟨n, e, -, h2⟩ := wi_nat (A := 0) (B := B) rfl rfl (by decide) hB h9
  exact h n h2 e
theorem no5 {x : Int32} (h0 : ¬ x = 0) (h1 : ¬ x = 1) (h2 : ¬ x = 2) (h3 : ¬ x = 3) (h4 : ¬ x = 4) : he_within x 0 4 = 0 := no_in (B := 4) (by decide) (fun n hn => by
  rcases (show n = 0 ∨ n = 1 ∨ n = 2 ∨ n = 3 ∨ n = 4 by omega) with rfl | rfl | rfl | rfl | rfl
  · exact h0
  · exact h1
  · exact h2
  · exact h3
  · exact h4)
theorem no4 {x : Int32} (h0 : ¬ x = 0) (h1 : ¬ x = 1) (h2 : ¬ x = 2) (h3 : ¬ x = 3) : he_within x 0 3 = 0 := no_in (B := 3) (by decide) (fun n hn => by
  rcases (show n = 0 ∨ n = 1 ∨ n = 2 ∨ n = 3 by omega) with rfl | rfl | rfl | rfl
  · exact h0
  · exact h1
  · exact h2
  · exact h3)
theorem no2 {x : Int32} (h0 : ¬ x = 0) (h1 : ¬ x = 1) : he_within x 0 1 = 0 := no_in (B := 1) (by decide) (fun n hn => by
  rcases (show n = 0 ∨ n = 1 by omega) with rfl | rfl
  · exact h0
  · exact h1)
theorem w1_0 {x : Int32} : he_within x 0 (nI 0 - 1) = 0 := by
  unfold he_within
  split
  · rfl
  · split
    · rfl
    · rename_i h1 h2
      exact absurd (Int32.lt_of_lt_of_le (by decide : nI 0 - 1 < 0) (Int32.not_lt.mp h1)) h2
/-- a number below another, by itself -/
theorem in_lt {x : Int32} {w : Nat} (hw : w < 2147483648) (h : ¬ he_within x 0 (nI w - 1) = 0) : ∃ j, j < w ∧ x = nI j := by
  cases w with
  | zero => exact absurd w1_0 h
  | succ w =>
    rw [nI_pred] at h
    obtain ⟨n, e, -, h2⟩ := wi_nat (A := 0) (B := w) rfl rfl (by decide) (by omega) h
    exact ⟨n, by omega, e⟩
/-- which contract is in force, by its number: none of the seven, or one -/
theorem inf7 (z : Int32) : he_within z 0 6 = 0 ∨ ∃ ci, ci < 7 ∧ z = nI ci := by
  rcases Decidable.em (he_within z 0 6 = 0) with h | h
  · exact Or.inl h
  · obtain ⟨n, e, -, h2⟩ := wi_nat (A := 0) (B := 6) rfl rfl (by decide) (by decide) h
    exact Or.inr ⟨n, by omega, e⟩
theorem cnt_out {x : Int32} (h0 : ¬ x = 0) (h1 : ¬ x = 1) (h2 : ¬ x = 2) : x.toInt < 0 ∨ 2 < x.toInt := by
  rw [← Int32.toInt_inj] at h0 h1 h2
  have e0 : (0 : Int32).toInt = 0 := by decide
  have e1 : (1 : Int32).toInt = 1 := by decide
  have e2 : (2 : Int32).toInt = 2 := by decide
  rw [e0] at h0
  rw [e1] at h1
  rw [e2] at h2
  omega
/-- a number of letters that the tape has -/
theorem tape_bad {x : Int32} {k : Nat} (h : he_within x 0 (nI k) = 0) : x < 0 ∨ nI k < x := by
  unfold he_within at h
  by_cases h1 : x < 0
  · exact Or.inl h1
  · rw [if_neg h1] at h
    by_cases h2 : nI k < x
    · exact Or.inr h2
    · rw [if_neg h2] at h
      exact absurd h (by decide)
theorem pm_S {X SC Y Q T R : va_W} (h : (X ++ SC).Perm (Y ++ Q)) (ht : T.Perm (SC ++ R)) : (X ++ T).Perm (Y ++ (Q ++ R)) := by
  refine (List.Perm.append_left X ht).trans ?_
  rw [← List.append_assoc, ← List.append_assoc]
  exact h.append_right R
theorem pm_N {X SC Y Q : va_W} (h : (X ++ SC).Perm (Y ++ Q)) (T : va_W) : (X ++ (T ++ SC)).Perm (Y ++ (Q ++ T)) := by
  refine (List.Perm.append_left X List.perm_append_comm).trans ?_
  rw [← List.append_assoc, ← List.append_assoc]
  exact h.append_right T
theorem IT_some {g : he_G} {imf : Nat → Option Nat} {nk j : Nat} {J : Nat → (Nat → Nat) × (Nat → Nat → Int32)} {T : va_W} (h : IT g imf nk J T) (hj : j < nk) : imf j ≠ none := by
  obtain ⟨Ls, h1, h2, h3, h4, h5⟩ := h
  rw [h4 j (by omega), List.getElem?_eq_getElem (by omega)]
  simp
theorem IT_m {g : he_G} {imf : Nat → Option Nat} {nk n2 : Nat} {J : Nat → (Nat → Nat) × (Nat → Nat → Int32)} {T : va_W} (h : IT g imf nk J T) (hn : n2 ≤ nk) : IT g imf n2 J T := by
  obtain ⟨Ls, h1, h2, h3, h4, h5, h6⟩ := h
  exact ⟨Ls, h1, by omega, h3, h4, h5, fun j hj => h6 j (by omega)⟩
theorem th_lt {n : Nat} (hn : n ≤ 12) : (nI n < 12) ↔ n < 12 := nI_ltI (a := n) (b := 12) (by omega) (by decide)
theorem th_p (n : Nat) : nI n + 1 = nI (n + 1) := nI_add n 1
theorem fa_some {X : Option (Nat × Nat)} {b : Int32} (hb : b = faC X) (h : ¬ b = 0) : ∃ c, X = some c := by
  cases X with
  | none => exact absurd hb h
  | some c => exact ⟨c, rfl⟩
theorem tx_f0 {T : Nat → Nat} {n : Nat} {wl : List (List Nat)} {bd : Nat → List (Nat × Nat)} {full : Nat → Nat → Nat → Bool} : ∀ (f b w k : Nat) (c : Nat × Nat), (txP T n wl bd full f b w k).1 = some c → 1 ≤ c.1 ∧ c.1 ≤ 3 := by
  intro f
  induction f with
  | zero => intro b w k c h; rw [txP] at h; cases h
  | succ f ih =>
    intro b w k c h
    rcases Nat.lt_or_ge (rn isBl T n k) n with hl | hl
    · rcases hp : ptS T n wl bd (full b w) (rn isBl T n k) with ⟨x, p, y⟩
      cases x with
      | some d =>
        rw [tx_f (c := d) hl (by rw [hp])] at h
        cases h
        exact pt_f0 (c := c.1) (p := c.2) (show (ptS T n wl bd (full b w) (rn isBl T n k)).1 = some (c.1, c.2) by rw [hp])
      | none =>
        cases y with
        | none => rw [txP, if_neg (by omega), hp] at h; cases h
        | some z =>
          obtain ⟨q, vs⟩ := z
          rw [tx_o (q := q) (vs := vs) hl (by rw [hp]) (by rw [hp])] at h
          exact ih _ _ _ c h
    · rw [tx_e hl] at h; cases h
theorem fa_none {T : Nat → Nat} {n : Nat} {wl : List (List Nat)} {bd : Nat → List (Nat × Nat)} {full : Nat → Nat → Nat → Bool} {f b w k : Nat} {z : Int32} (hz : z = faC (txP T n wl bd full f b w k).1) (h : z = 0) : (txP T n wl bd full f b w k).1 = none := by
  cases hX : (txP T n wl bd full f b w k).1 with
  | none => rfl
  | some c =>
    exfalso
    have hc := tx_f0 f b w k c hX
    rw [hX, h] at hz
    have hz : (0 : Int32) = nI c.1 := hz
    rcases (show c.1 = 1 ∨ c.1 = 2 ∨ c.1 = 3 by omega) with e | e | e <;> (rw [e] at hz; exact absurd hz (by decide))
theorem sgS0 {S : AbS} {X : Option (Nat × Nat) × List (Nat × List Nat)} : (sgS S X).1 = 0 := by unfold sgS; split <;> rfl
theorem ctS0 {S : AbS} {X : Option (Nat × Nat) × List (Nat × List Nat)} : (ctS S X).1 = 0 := by unfold ctS; split <;> rfl
theorem imL_mk {q : Sc} {S : AbS} {mo : Nat} (h1 : S.1 5 = mo) (h2 : q.2.1 = mo) (h3 : q.2.2.1 2 = nI (S.1 4)) (h4 : S.1 4 ≤ 12) (h5 : nowC mo (q.2.2.2.2 0) (S.2.2.2.2 5)) (h6 : lnC (q.2.2.2.2 2) mo S.2.2.2.2) (h7 : ofC (q.2.2.2.2 5) S.2.2.2.2) : imL q (S.1, S.2.2.2.2) := by
  subst h1
  exact ⟨h2, h3, h4, h5, h6, h7⟩
theorem now_cpy {m : Nat} {f g F : Nat → Int32} (h : nowC m f F) : nowC m (va_cpy f g 0 0 24) F := by
  have e : ∀ i, i < 24 → va_cpy f g 0 0 24 i = f i := fun i hi => by rw [pk_cpy_in (by omega) (by omega), show 0 + (i - 0) = i by omega]
  refine ⟨fun i hi => (e i hi.1).trans (h.1 i hi), ?_⟩
  rcases h.2 with b | ⟨b0, it, sg, b1, b2, b3⟩
  · exact Or.inl b
  · exact Or.inr ⟨b0, it, sg, b1, (e 11 (by decide)).trans b2, b3⟩
theorem ln_cpy {mo : Nat} {ln g : Nat → Int32} {R : Rw} (h : lnC ln mo R) : lnC (va_cpy ln g 0 0 (mo * 30)) mo R := fun t ht => by
  have e : ∀ i, i < 30 → va_cpy ln g 0 0 (mo * 30) (t * 30 + i) = ln (t * 30 + i) := fun i hi => by rw [pk_cpy_in (by omega) (by omega), show 0 + (t * 30 + i - 0) = t * 30 + i by omega]
  obtain ⟨⟨a, b⟩, c⟩ := h t ht
  refine ⟨⟨fun i hi => (e i (by have := hi.1; omega)).trans (a i hi), ?_⟩, fun j hj => ?_⟩
  · rcases b with b | ⟨b0, it, sg, b1, b2, b3⟩
    · exact Or.inl b
    · exact Or.inr ⟨b0, it, sg, b1, (e 11 (by decide)).trans b2, b3⟩
  · rw [show t * 30 + 24 + j = t * 30 + (24 + j) by omega, e (24 + j) (by omega), ← show t * 30 + 24 + j = t * 30 + (24 + j) by omega]
    exact c j hj
theorem of_cpy {co g : Nat → Int32} {R : Rw} (h : ofC co R) : ofC (va_cpy co g 0 0 36) R := fun m hm => by
  rw [pk_cpy_in (by omega) (by omega), pk_cpy_in (by omega) (by omega), pk_cpy_in (by omega) (by omega), show 0 + (m * 3 - 0) = m * 3 by omega, show 0 + (m * 3 + 1 - 0) = m * 3 + 1 by omega, show 0 + (m * 3 + 2 - 0) = m * 3 + 2 by omega]
  exact h m hm
theorem rs_n {J R : Rw} {i : Nat} (h : i < 30) (h5 : i ≠ 5) : rsR J R i = R i := by unfold rsR; rw [if_neg (by omega)]
theorem rs_y {J R : Rw} {i : Nat} (h : i = 5 ∨ i = 30 ∨ i = 31 ∨ 40 ≤ i) : rsR J R i = J i := by unfold rsR; rw [if_pos h]
theorem rs_now {S : AbS} {q : Sc} {jk : Nat} {f : Nat → Int32} (hJ : S.1 3 - 1 = jk) (h : imL q (S.2.2.2.1 jk)) : nowC q.2.1 (va_cpy (q.2.2.2.2 0) f 0 0 24) ((rsS S).2.2.2.2 5) := by
  obtain ⟨h1, -, -, h2, -⟩ := h
  show nowC q.2.1 _ (rsR (S.2.2.2.1 (S.1 3 - 1)).2 S.2.2.2.2 5)
  rw [hJ, rs_y (Or.inl rfl), h1]
  exact now_cpy h2
theorem rs_ln {S : AbS} {q : Sc} {jk : Nat} {ln : Nat → Int32} (hJ : S.1 3 - 1 = jk) (h : imL q (S.2.2.2.1 jk)) : lnC (va_cpy (q.2.2.2.2 2) ln 0 0 (q.2.1 * 30)) q.2.1 (rsS S).2.2.2.2 := by
  obtain ⟨h1, -, -, -, h2, -⟩ := h
  rw [h1]
  refine ln_cpy (fun t ht => ?_)
  show nowC t _ (rsR (S.2.2.2.1 (S.1 3 - 1)).2 S.2.2.2.2 (40 + t)) ∧ ∀ j, j < 6 → _ = rsR (S.2.2.2.1 (S.1 3 - 1)).2 S.2.2.2.2 (200 + t) j
  rw [hJ, rs_y (Or.inr (Or.inr (Or.inr (by omega)))), rs_y (Or.inr (Or.inr (Or.inr (by omega))))]
  exact h2 t ht
theorem rs_of {S : AbS} {q : Sc} {jk : Nat} {co : Nat → Int32} (hJ : S.1 3 - 1 = jk) (h : imL q (S.2.2.2.1 jk)) : ofC (va_cpy (q.2.2.2.2 5) co 0 0 36) (rsS S).2.2.2.2 := by
  obtain ⟨-, -, -, -, -, h2⟩ := h
  refine of_cpy (fun m hm => ?_)
  show _ = 0 ∧ _ = rsR (S.2.2.2.1 (S.1 3 - 1)).2 S.2.2.2.2 30 m ∧ _ = rsR (S.2.2.2.1 (S.1 3 - 1)).2 S.2.2.2.2 31 m
  rw [hJ, rs_y (Or.inr (Or.inl rfl)), rs_y (Or.inr (Or.inr (Or.inl rfl)))]
  exact h2 m hm
theorem rs_dat {S : AbS} {w : Nat} {sd fn st me : Nat → Int32} (h : datC w sd fn st me S.2.2.2.2) : datC w sd fn st me (rsS S).2.2.2.2 := by
  show datC w sd fn st me (rsR (S.2.2.2.1 (S.1 3 - 1)).2 S.2.2.2.2)
  unfold datC
  rw [rs_n (i := 2) (by decide) (by decide), rs_n (i := 3) (by decide) (by decide), rs_n (i := 4) (by decide) (by decide)]
  exact h
theorem rs_co {S : AbS} {a b : Nat} {pd wb : Nat → Int32} (h1 : a < 30) (h2 : a ≠ 5) (h3 : b < 30) (h4 : b ≠ 5) (h : conC pd wb (S.2.2.2.2 a) (S.2.2.2.2 b)) : conC pd wb ((rsS S).2.2.2.2 a) ((rsS S).2.2.2.2 b) := by
  show conC pd wb (rsR (S.2.2.2.1 (S.1 3 - 1)).2 S.2.2.2.2 a) (rsR (S.2.2.2.1 (S.1 3 - 1)).2 S.2.2.2.2 b)
  rw [rs_n h1 h2, rs_n h3 h4]
  exact h
