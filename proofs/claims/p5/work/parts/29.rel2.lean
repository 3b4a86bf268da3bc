/-! the class's state and the rows -/
section RL2
variable {R : Rw} {w nt m mo k j : Nat} {sd fn st me pd wb f F g C B ln co : Nat → Int32} {x y : Int32}
theorem now_11 (h : nowC m f F) : (if f 10 = -1 then -1 else nI m - f 11) = F 11 := by
  have e : f 10 = F 10 := h.1 10 ⟨by decide, by decide⟩
  rcases h.2 with ⟨a, b⟩ | ⟨a, it, sg, h1, h2, h3⟩
  · rw [if_pos (e.trans a), b]
  · rw [if_neg (fun h9 => a (e.symm.trans h9)), h1, h2, pk_sub (by omega), show m - sg = it by omega]
theorem now_9 (h : ¬ he_within x 0 9 = 0) : nP x.toNatClampNeg := by
  have := (he_within_nat (B := 9) rfl (by decide) h).2
  exact ⟨by omega, by omega⟩
theorem now_s (x : Int32) (h : nowC m f F) : nowC m (fcF f x (nI m)) (sgF F x) := by
  have e10 : sgF F x 10 = x := sgF_10 F x
  refine ⟨fun i hi => ?_, ?_⟩
  · unfold fcF sgF
    rw [upd_n hi.2, upd_n hi.2]
    by_cases e : i = 10
    · rw [e, upd_s, upd_s]
    · rw [upd_n e, upd_n e]; exact h.1 i hi
  · by_cases e : x = -1
    · left
      refine ⟨e10.trans e, ?_⟩
      unfold sgF
      rw [upd_s, if_pos e]
    · right
      refine ⟨fun h9 => e (e10.symm.trans h9), 0, m, ?_, ?_, by omega⟩
      · unfold sgF
        rw [upd_s, if_neg e]
        rfl
      · unfold fcF
        rw [upd_s]
theorem dat_u {i : Nat} (hi : 4 < i) (h : datC w sd fn st me R) : datC w sd fn st me (rwU R i g) := by
  unfold datC
  rw [rwU_n (show 2 ≠ i by omega), rwU_n (show 3 ≠ i by omega), rwU_n (show 4 ≠ i by omega)]
  exact h
theorem dat_5 (h : datC w sd fn st me R) : datC w sd fn st me (rwU R 5 g) := dat_u (by decide) h
theorem ln_u {i : Nat} (hi : i < 40) (h : lnC ln mo R) : lnC ln mo (rwU R i g) := fun t ht => by
  rw [rwU_n (show 40 + t ≠ i by omega), rwU_n (show 200 + t ≠ i by omega)]
  exact h t ht
theorem ln_5 (h : lnC ln mo R) : lnC ln mo (rwU R 5 g) := ln_u (by decide) h
theorem of_5 (h : ofC co R) : ofC co (rwU R 5 g) := fun m hm => by
  rw [rwU_n (show 30 ≠ 5 by decide), rwU_n (show 31 ≠ 5 by decide)]
  exact h m hm
theorem co_5 {a b i : Nat} (ha : a ≠ i) (hb : b ≠ i) (h : conC pd wb (R a) (R b)) : conC pd wb (rwU R i g a) (rwU R i g b) := by
  rw [rwU_n ha, rwU_n hb]
  exact h
theorem co_s {a b : Nat} (ha : a ≠ 5) (hb : b ≠ 5) (ha4 : a < 40) (hb4 : b < 40) (h : conC pd wb (R a) (R b)) : conC pd wb (aMs R w k j a) (aMs R w k j b) := by
  rw [aMs_n ha ha4, aMs_n hb hb4]
  exact h
theorem of_s (h : ofC co R) : ofC co (aMs R w k j) := fun m hm => by
  rw [aMs_n (by decide) (by decide), aMs_n (by decide) (by decide)]
  exact h m hm
theorem rl_e (h : conC pd wb C B) (hk : k ≤ 6) : rlA pd wb k = C k := by
  obtain ⟨c0, c1, c2, c3, c4, c5, -, c6⟩ := h
  unfold rlA
  rcases (show k = 0 ∨ k = 1 ∨ k = 2 ∨ k = 3 ∨ k = 4 ∨ k = 5 ∨ k = 6 by omega) with rfl | rfl | rfl | rfl | rfl | rfl | rfl
  · exact c0
  · exact c1
  · exact c2
  · exact c3
  · exact c4
  · exact c5
  · exact c6
theorem wa_e (h : datC w sd fn st me R) (x y : Int32) : wantF sd x y = waA R x y := by
  have e1 : sd 21 = R 2 13 := h.1 13 (by decide) (by decide)
  have e2 : sd 22 = R 2 14 := h.1 14 (by decide) (by decide)
  unfold wantF waA
  rw [e1, e2]
  have e : (10 : Int32) - x = (9 - x) + 1 := by
    rw [Int32.sub_eq_add_neg, Int32.sub_eq_add_neg, Int32.add_assoc, Int32.add_comm (-x) 1, ← Int32.add_assoc]
    rfl
  rw [e, Int32.mul_add, Int32.mul_one, Int32.add_comm (R 2 13 * (9 - x)) (R 2 13), Int32.add_assoc, Int32.add_assoc, Int32.add_comm (R 2 13 * (9 - x))]
theorem ne_e (h : datC w sd fn st me R) (x y : Int32) : ∀ n r, neC sd x y n r = neA R x y n r
  | 0, _ => rfl
  | n + 1, r => by rw [neC, neA, wa_e h, ne_e h x y n (r + 1)]
theorem ck_e {i : Nat} (h : lnC ln mo R) (hj : j < 6) : (if i < mo then ln (i * 30 + 24 + j) else 0) = if i < mo then R (200 + i) j else 0 := by
  by_cases c : i < mo
  · rw [if_pos c, if_pos c]; exact (h i c).2 j hj
  · rw [if_neg c, if_neg c]
theorem co_n (h : conC pd wb C B) (hg : conG w C B) : ∃ q2 ck q5, q2 ≤ 9 ∧ ck ≤ 99 ∧ q5 ≤ 36 ∧ pd 2 = nI q2 ∧ pd 3 = nI ck ∧ pd 5 = nI q5 := by
  obtain ⟨⟨q, h1, h2⟩, ⟨ck, h3, h4⟩, ⟨q5, h5, h6, h7⟩, -⟩ := hg
  obtain ⟨c0, c1, c2, c3, c4, c5, -⟩ := h
  exact ⟨q, ck, q5, h1, h3, h6, c2.trans h2, c3.trans h4, c5.trans h7⟩
/-! months undone -/
theorem un_n {i n : Nat} (hi : i ≠ 5) : unA R mo n i = R i := by unfold unA; rw [if_neg (fun h9 => hi h9.1)]
theorem un_now {n uk : Nat} {uf : Nat → Int32} (h : nowC mo f (R 5)) (hL : lnC ln mo R) (e : uk = mo - min n mo) (h3 : (uk = mo ∧ uf = f) ∨ (uk < mo ∧ uf = va_cpy ln f (uk * 30) 0 24)) : nowC uk uf (unA R mo n 5) := by
  unfold unA
  rcases h3 with ⟨e1, e2⟩ | ⟨e1, e2⟩
  · rw [if_neg (by omega), e1, e2]; exact h
  · rw [if_pos ⟨rfl, by omega⟩, ← e]
    obtain ⟨⟨a, b⟩, -⟩ := hL uk e1
    have ea : ∀ i, i < 24 → uf i = ln (uk * 30 + i) := fun i hi => by
      rw [e2, pk_cpy_in (by omega) (by omega), show i - 0 = i by omega]
    refine ⟨fun i hi => (ea i hi.1).trans (a i hi), ?_⟩
    rcases b with b | ⟨b0, it, sg, b1, b2, b3⟩
    · exact Or.inl b
    · exact Or.inr ⟨b0, it, sg, b1, (ea 11 (by decide)).trans b2, b3⟩
theorem un_ln {n uk : Nat} (hL : lnC ln mo R) (e : uk = mo - min n mo) : lnC ln uk (unA R mo n) := fun t ht => by
  rw [un_n (by omega), un_n (by omega)]
  exact hL t (by omega)
theorem un_dat {n : Nat} (h : datC w sd fn st me R) : datC w sd fn st me (unA R mo n) := by
  unfold datC
  rw [un_n (by decide), un_n (by decide), un_n (by decide)]
  exact h
theorem un_co {a b n : Nat} (ha : a ≠ 5) (hb : b ≠ 5) (h : conC pd wb (R a) (R b)) : conC pd wb (unA R mo n a) (unA R mo n b) := by
  rw [un_n ha, un_n hb]
  exact h
theorem un_of {n : Nat} (h : ofC co R) : ofC co (unA R mo n) := fun m hm => by
  rw [un_n (by decide), un_n (by decide)]
  exact h m hm
/-! an offer -/
theorem of_u {i : Nat} (h : ofC co R) (hi1 : 1 ≤ i) (hi2 : i ≤ 2) (hj : j ≤ 11) (z : Int32) : ofC (upd co (j * 3 + i) z) (rwU R (29 + i) (upd (R (29 + i)) j z)) := fun m hm => by
  obtain ⟨a, b, c⟩ := h m hm
  rcases (show i = 1 ∨ i = 2 by omega) with rfl | rfl
  · rw [rwU_s, rwU_n (show 31 ≠ 29 + 1 by decide)]
    refine ⟨by rw [upd_n (by omega)]; exact a, ?_, by rw [upd_n (by omega)]; exact c⟩
    by_cases e : m = j
    · rw [e, upd_s, upd_s]
    · rw [upd_n (by omega), upd_n e]; exact b
  · rw [rwU_n (show 30 ≠ 29 + 2 by decide), show 31 = 29 + 2 from rfl, rwU_s]
    refine ⟨by rw [upd_n (by omega)]; exact a, by rw [upd_n (by omega)]; exact b, ?_⟩
    by_cases e : m = j
    · rw [e, upd_s, upd_s]
    · rw [upd_n (by omega), upd_n e]; exact c
theorem of_a {i : Nat} (h : ofC co R) (hi1 : 1 ≤ i) (hi2 : i ≤ 2) (hj : j ≤ 11) : co (j * 3 + i) = R (29 + i) j := by
  obtain ⟨a, b, c⟩ := h j (by omega)
  rcases (show i = 1 ∨ i = 2 by omega) with rfl | rfl
  · exact b
  · exact c
/-! a siege's beginning -/
theorem bg_now {T R3 : Nat → Int32} {w : Nat} (hw : w ≤ 6) (hT : ∀ i, 0 < i → i < 25 → tOf sd fn i = T i) (h3 : ∀ k, k < w → st k = R3 k) : nowC 0 (beginF sd st w f) (bgA w T R3) := by
  refine ⟨fun i hi => ?_, Or.inl ⟨by unfold bgA; rfl, by unfold bgA; rfl⟩⟩
  obtain ⟨h1, h2⟩ := hi
  unfold beginF lwF bgA
  by_cases c : 12 ≤ i ∧ i < 12 + w
  · rw [if_pos c, if_neg (by omega), if_neg (by omega), if_neg (by omega), if_neg (by omega), if_neg (by omega), if_neg (by omega), if_neg (by omega), if_pos c]
    exact h3 _ (by omega)
  · rw [if_neg c]
    rcases Nat.lt_or_ge i 12 with d | d
    · rcases (show i = 0 ∨ i = 1 ∨ i = 2 ∨ i = 3 ∨ i = 4 ∨ i = 5 ∨ i = 6 ∨ i = 7 ∨ i = 8 ∨ i = 9 ∨ i = 10 by omega) with rfl | rfl | rfl | rfl | rfl | rfl | rfl | rfl | rfl | rfl | rfl
      · exact hT 1 (by decide) (by decide)
      · exact hT 4 (by decide) (by decide)
      · exact hT 7 (by decide) (by decide)
      · exact hT 2 (by decide) (by decide)
      · exact hT 5 (by decide) (by decide)
      · exact hT 9 (by decide) (by decide)
      · rfl
      · rfl
      · rfl
      · rfl
      · rfl
    · rw [if_neg (by omega), if_neg (by omega), if_neg (by omega), if_neg (by omega), if_neg (by omega), if_neg (by omega), if_neg (by omega), if_neg c, upd_n (by omega), upd_n (by omega), upd_n (by omega), upd_n (by omega), upd_n (by omega), upd_n (by omega), upd_n (by omega)]
      unfold flF
      rw [if_pos h1]
theorem of_0 (co : Nat → Int32) {R : Rw} (h30 : R 30 = fun _ => 0) (h31 : R 31 = fun _ => 0) : ofC (flF (fun _ => 0) co 36) R := fun m hm => by
  unfold flF
  rw [h30, h31, if_pos (by omega), if_pos (by omega), if_pos (by omega)]
  exact ⟨rfl, rfl, rfl⟩
/-! a contract told -/
theorem co_new (L : List (Nat × List Nat)) (pd wb : Nat → Int32) : conC (fdRl L (clP pd)) (fdB L (flF (fun _ => -1) wb 36)) (ctC L) (ctB L) := by
  have h := rl_cg L (clP pd) (flF iniF (fun _ => 0) 7) (fun i hi => by
    rcases (show i = 0 ∨ i = 1 ∨ i = 2 ∨ i = 3 ∨ i = 4 ∨ i = 5 by omega) with rfl | rfl | rfl | rfl | rfl | rfl <;> rfl)
  have hb := rb_cg L (flF (fun _ => -1) wb 36) (flF (fun _ => -1) (fun _ => 0) 36) (fun i hi => by unfold flF; rw [if_pos hi, if_pos hi])
  refine ⟨h 0 (by decide), ?_, h 2 (by decide), h 3 (by decide), h 4 (by decide), h 5 (by decide), hb, congrArg nI (cn_cg 36 hb)⟩
  show wpF (fdRl L (clP pd)) = (if fdRl L (flF iniF (fun _ => 0) 7) 1 = -1 then fdRl L (flF iniF (fun _ => 0) 7) 0 else fdRl L (flF iniF (fun _ => 0) 7) 1)
  unfold wpF
  rw [h 0 (by decide), h 1 (by decide)]
end RL2
theorem dat_sg {L : List (Nat × List Nat)} {w : Nat} {e0 e1 e2 e3 ud un ut um : Nat → Int32} {R : Rw} (hL : ∀ a ∈ L, a.1 < 8 ∧ vbL (bd6 a.1) a.2) (h0 : w = fdW L 0) (h1 : ud = fdD L (flF unF e0 24)) (h2 : un = fdN L (flF nrF e1 10)) (h3 : ut = fdT L 0 e2) (h4 : um = fdM L 0 e3) : datC w ud un ut um (sgR9 L R) := by
  subst h0 h1 h2 h3 h4
  refine ⟨mt_F L 0 _ _ _ hL (mt_0 e0 e1), fun k hk => ⟨?_, ?_⟩⟩
  · exact fdT_cg L 0 e2 (fun _ => 0) (fun k hk => absurd hk (Nat.not_lt_zero k)) k hk
  · exact fdM_cg L 0 e3 (fun _ => 0) (fun k hk => absurd hk (Nat.not_lt_zero k)) k hk
theorem ct_n0 {L : List (Nat × List Nat)} {nt i : Nat} {R : Rw} (h1 : i ≠ 10 + nt) (h2 : i ≠ 20 + nt) : ctR9 nt L R i = R i := by unfold ctR9; rw [if_neg h1, if_neg h2]
theorem ct_dat {L : List (Nat × List Nat)} {nt w : Nat} {sd fn st me : Nat → Int32} {R : Rw} (h : datC w sd fn st me R) : datC w sd fn st me (ctR9 nt L R) := by
  unfold datC
  rw [ct_n0 (i := 2) (by omega) (by omega), ct_n0 (i := 3) (by omega) (by omega), ct_n0 (i := 4) (by omega) (by omega)]
  exact h
theorem ct_ln {L : List (Nat × List Nat)} {nt mo : Nat} {ln : Nat → Int32} {R : Rw} (hn : nt < 6) (h : lnC ln mo R) : lnC ln mo (ctR9 nt L R) := fun t ht => by
  rw [ct_n0 (i := 40 + t) (by omega) (by omega), ct_n0 (i := 200 + t) (by omega) (by omega)]
  exact h t ht
theorem ct_of {L : List (Nat × List Nat)} {nt : Nat} {co : Nat → Int32} {R : Rw} (hn : nt < 6) (h : ofC co R) : ofC co (ctR9 nt L R) := fun m hm => by
  rw [ct_n0 (i := 30) (by omega) (by omega), ct_n0 (i := 31) (by omega) (by omega)]
  exact h m hm
theorem ct_co {L : List (Nat × List Nat)} {nt a b : Nat} {pd wb : Nat → Int32} {R : Rw} (h1 : a ≠ 10 + nt) (h2 : a ≠ 20 + nt) (h3 : b ≠ 10 + nt) (h4 : b ≠ 20 + nt) (h : conC pd wb (R a) (R b)) : conC pd wb (ctR9 nt L R a) (ctR9 nt L R b) := by
  rw [ct_n0 h1 h2, ct_n0 h3 h4]
  exact h
theorem ct_cn {L : List (Nat × List Nat)} {n nt i : Nat} {pd wb ud ub : Nat → Int32} {R : Rw} (hn : n = nt) (e : nt = i) (h1 : ud = fdRl L (clP pd)) (h2 : ub = fdB L (flF (fun _ => -1) wb 36)) : conC ud ub (ctR9 n L R (10 + i)) (ctR9 n L R (20 + i)) := by
  subst hn e h1 h2
  have e1 : ctR9 n L R (10 + n) = ctC L := by unfold ctR9; rw [if_pos rfl]
  have e2 : ctR9 n L R (20 + n) = ctB L := by unfold ctR9; rw [if_neg (by omega), if_pos rfl]
  rw [e1, e2]
  exact co_new L pd wb
