/-! months, the class's side -/
def datC (w : Nat) (sd fn st me : Nat → Int32) (R : Rw) : Prop := (∀ i, 0 < i → i < 25 → tOf sd fn i = R 2 i) ∧ ∀ k, k < w → st k = R 3 k ∧ me k = R 4 k
def conC (pd wb C B : Nat → Int32) : Prop := cOf pd 0 = C 0 ∧ cOf pd 1 = C 1 ∧ pd 2 = C 2 ∧ pd 3 = C 3 ∧ pd 4 = C 4 ∧ pd 5 = C 5 ∧ (∀ m, m < 36 → wb m = B m) ∧ nI (cnF wb 36) = C 6
def lnC (ln : Nat → Int32) (mm : Nat) (R : Rw) : Prop := ∀ t, t < mm → nowC t (fun i => ln (t * 30 + i)) (R (40 + t)) ∧ ∀ j, j < 6 → ln (t * 30 + 24 + j) = R (200 + t) j
theorem bdT_cg {T T2 : Nat → Int32} (e : ∀ i, 0 < i → i < 25 → T i = T2 i) (h : bdT T2) : bdT T := by
  obtain ⟨h1, h2, h3, h4, h5, h6, h7⟩ := h
  unfold bdT
  rw [e 3 (by decide) (by decide), e 6 (by decide) (by decide), e 8 (by decide) (by decide), e 10 (by decide) (by decide), e 11 (by decide) (by decide), e 12 (by decide) (by decide)]
  exact ⟨h1, h2, h3, h4, h5, h6, fun r hr => by rw [e (15 + r) (by omega) (by omega)]; exact h7 r hr⟩
theorem bdF_cg {w : Nat} {f F R3 S3 : Nat → Int32} (hw : w ≤ 6) (e : eqP nP f F) (e3 : ∀ k, k < w → S3 k = R3 k) (h : bdF w R3 F) : bdF w S3 f := by
  have a : ∀ i, i < 11 → f i = F i := fun i hi => e i ⟨by omega, by omega⟩
  unfold bdF
  rw [a 0 (by decide), a 1 (by decide), a 2 (by decide), a 3 (by decide), a 4 (by decide), a 5 (by decide)]
  refine ⟨h.1, h.2.1, h.2.2.1, fun k hk => ?_⟩
  rw [e (12 + k) ⟨by omega, by omega⟩, e3 k hk]
  exact h.2.2.2 k hk
theorem bdC_cg {pd wb C B : Nat → Int32} (e : conC pd wb C B) (h : bdC C) : bdC (cOf pd) := by
  obtain ⟨e0, e1, -, -, e4, -⟩ := e
  have e4 : cOf pd 4 = C 4 := e4
  unfold bdC
  rw [e0, e1, e4]
  exact h
section MC
variable {sd fn st me pd wb F G f us uf g0 sh : Nat → Int32} {R : Rw} {w nt mm ci q2 ck q5 it sg : Nat}
theorem now_lt (hok : okA w nt mm R) (h10 : R 5 10 = nI ci) (h11 : R 5 11 = nI it) (hcn : ci < nt) (hq5 : R (10 + ci) 5 = nI q5) (hq : q5 ≤ 36) (hit : it < 2147483648) : it < q5 := by
  obtain ⟨-, hn, hm, -, -, -, hN, -, -⟩ := hok
  rcases hN with ⟨a, -⟩ | ⟨c, i2, h1, h2, h3, h4, h5⟩
  · exact absurd (h10.symm.trans a) (nI_nm1 (by omega))
  · have ec : c = ci := nI_j (by omega) (by omega) (h2.symm.trans h10)
    have ei : i2 = it := nI_j (by omega) hit (h3.symm.trans h11)
    rw [ec, hq5, toN_I (by omega), ei] at h5
    exact h5
theorem mo_in (hok : okA w nt mm R) (hdat : datC w sd fn st me R) (hcon : conC pd wb (R (10 + ci)) (R (20 + ci))) (hcn : ci < nt) (hq2 : pd 2 = nI q2) (hq9 : q2 ≤ 9) (hck : pd 3 = nI ck) (hc99 : ck ≤ 99) (hq5 : pd 5 = nI q5) (hq36 : q5 ≤ 36) (hN : nowC mm F (R 5)) (h10 : R 5 10 = nI ci) (h11 : R 5 11 = nI it) (hf11 : F 11 = nI sg) (hsg : sg + it = mm) (e1 : eqP nP uf (rMonP (tOf sd fn) st me (cOf pd) (wb (mm - sg)) q2 ck q5 (mm - sg) w mm F g0)) (hg0 : ∀ j, j < 6 → g0 j = 0) (e2 : ∀ j, j < 6 → us j = rMonG (tOf sd fn) st (cOf pd) (wb (mm - sg)) q2 ck w mm F g0 j) (e3 : uf 11 = F 11) : nowC (mm + 1) uf (aM1 R w mm 5) ∧ (aM1 R w mm 5 10 = nI ci ∨ aM1 R w mm 5 10 = -1) ∧ ∀ j, j < 6 → us j = aM1 R w mm (200 + mm) j := by
  have hm := hok.2.2.1
  have hw := hok.1
  have hn := hok.2.1
  obtain ⟨-, -, hq, hb, hB⟩ := hok.2.2.2.2.2.2.2.1 ci hcn
  obtain ⟨c0, c1, c2, c3, c4, c5, c6, -⟩ := hcon
  have hlt := now_lt hok h10 h11 hcn (c5.symm.trans hq5) hq36 (by omega)
  have es : mm - sg = it := by omega
  have ew : wb it = R (20 + ci) it := c6 it (by omega)
  rw [es, ew] at e1 e2
  have hd := hB it (by omega)
  have cg := cg_monP (P := nP) (T := tOf sd fn) (T2 := R 2) (R3 := st) (S3 := R 3) (R4 := me) (S4 := R 4) (C := cOf pd) (C2 := R (10 + ci)) (f := F) (F := R 5) (g := g0) (G := fun _ => 0) (ck := ck) (q5 := q5) (it := it) (mm := mm) nP_in hd hw hq9 hdat.1 (fun k hk => (hdat.2 k hk).1) (fun k hk => (hdat.2 k hk).2) c0 c1 c4 hN.1 hg0
  have eA : aM1 R w mm 5 = rMonP (R 2) (R 3) (R 4) (R (10 + ci)) (R (20 + ci) it) q2 ck q5 it w mm (R 5) (fun _ => 0) := by
    show (if (5 : Nat) = 5 then aMon R w mm else _) = _
    rw [if_pos rfl]
    unfold aMon
    rw [h10, if_neg (nI_nm1 (by omega)), toN_I (by omega), h11, toN_I (by omega), ← c2, hq2, toN_I (by omega), ← c3, hck, toN_I (by omega), ← c5, hq5, toN_I (by omega)]
  have eG : aM1 R w mm (200 + mm) = rMonG (R 2) (R 3) (R (10 + ci)) (R (20 + ci) it) q2 ck w mm (R 5) (fun _ => 0) := by
    unfold aM1
    rw [if_neg (by omega), if_neg (by omega), if_pos rfl]
    unfold aMonG
    rw [h10, if_neg (nI_nm1 (by omega)), toN_I (by omega), h11, toN_I (by omega), ← c2, hq2, toN_I (by omega), ← c3, hck, toN_I (by omega)]
  rw [eA, eG]
  have hnow := mp_now (T := R 2) (R3 := R 3) (R4 := R 4) (C := R (10 + ci)) (q := q2) (ck := ck) (mm := mm) (g := fun _ => 0) hd hw h10 h11 (by omega) hlt
  refine ⟨⟨fun i hi => (e1 i hi).trans (cg.1 i hi), ?_⟩, hnow.elim (fun h => Or.inr h.1) (fun h => Or.inl h.1), fun j hj => (e2 j hj).trans (cg.2 j hj)⟩
  rcases hnow with h | h
  · exact Or.inl h
  · exact Or.inr ⟨fun h9 => nI_nm1 (by omega) (h.1.symm.trans h9), it + 1, sg, h.2.1, e3.trans hf11, by omega⟩
theorem mo_no (hok : okA w nt mm R) (hdat : datC w sd fn st me R) (hN : nowC mm F (R 5)) (h10 : R 5 10 = -1) (e1 : uf = psT sd st me w (taxF sd F)) (e2 : us = flF (fun _ => 0) sh 6) : nowC (mm + 1) uf (aM1 R w mm 5) ∧ aM1 R w mm 5 10 = -1 ∧ ∀ j, j < 6 → us j = aM1 R w mm (200 + mm) j := by
  have hw := hok.1
  have eA : aM1 R w mm 5 = rMonN (R 2) (R 3) (R 4) w mm (R 5) := by
    show (if (5 : Nat) = 5 then aMon R w mm else _) = _
    rw [if_pos rfl]
    unfold aMon
    rw [if_pos h10]
  have eG : aM1 R w mm (200 + mm) = fun _ => 0 := by
    unfold aM1
    rw [if_neg (by omega), if_neg (by omega), if_pos rfl]
    unfold aMonG
    rw [if_pos h10]
  have hbF : bdF w st F := bdF_cg hw hN.1 (fun k hk => (hdat.2 k hk).1) hok.2.2.2.2.2.1
  have hT := bdT_cg hdat.1 hok.2.2.2.1
  have e9 : uf = rTail (tOf sd fn) st me w (rTax (tOf sd fn) F) := by
    rw [e1]
    show psT sd st me w (rTax (tOf sd fn) F) = _
    exact tail_eq hT (bd_tax (T := tOf sd fn) hT hbF).2.2.1
  have cg := cg_monN (P := nP) (T := tOf sd fn) (T2 := R 2) (R3 := st) (S3 := R 3) (R4 := me) (S4 := R 4) (f := F) (F := R 5) (mm := mm) nP_in hdat.1 (fun k hk => (hdat.2 k hk).1) (fun k hk => (hdat.2 k hk).2) hw hN.1
  have h10' : aM1 R w mm 5 10 = -1 := by
    rw [eA]
    unfold rMonN
    rw [upd_n (by decide), (mn_now hw).1]
    exact h10
  have h11' : aM1 R w mm 5 11 = -1 := by
    rw [eA]
    unfold rMonN
    rw [upd_n (by decide), (mn_now hw).2.1]
    exact (hN.2.resolve_right (fun h9 => h9.1 h10)).2
  refine ⟨⟨fun i hi => ?_, Or.inl ⟨h10', h11'⟩⟩, h10', fun j hj => ?_⟩
  · rw [eA, ← cg i hi, e9]
    unfold rMonN
    rw [upd_n (show i ≠ 24 by have := hi.1; omega)]
  · rw [eG, e2]
    unfold flF
    rw [if_pos hj]
theorem ln_m1 {ln : Nat → Int32} (hL : lnC ln mm R) (hN : nowC mm F (R 5)) (hu : ∀ j, j < 6 → us j = aM1 R w mm (200 + mm) j) (hm : mm < 120) : lnC (va_cpy us (va_cpy F ln 0 (mm * 30) 24) 0 (mm * 30 + 24) 6) (mm + 1) (aM1 R w mm) := by
  intro t ht
  by_cases e : t = mm
  · subst e
    have e40 : aM1 R w t (40 + t) = R 5 := by unfold aM1; rw [if_neg (by omega), if_pos rfl]
    have ea : ∀ i, i < 24 → va_cpy us (va_cpy F ln 0 (t * 30) 24) 0 (t * 30 + 24) 6 (t * 30 + i) = F i := by
      intro i hi
      rw [pk_cpy_out (by omega), pk_cpy_in (by omega) (by omega), show 0 + (t * 30 + i - t * 30) = i by omega]
    refine ⟨?_, fun j hj => ?_⟩
    · rw [e40]
      refine ⟨fun i hi => (ea i hi.1).trans (hN.1 i hi), ?_⟩
      rcases hN.2 with h | ⟨h0, it, sg, h1, h2, h3⟩
      · exact Or.inl h
      · exact Or.inr ⟨h0, it, sg, h1, (ea 11 (by decide)).trans h2, h3⟩
    · rw [pk_cpy_in (by omega) (by omega), show 0 + (t * 30 + 24 + j - (t * 30 + 24)) = j by omega]
      exact hu j hj
  · have e40 : aM1 R w mm (40 + t) = R (40 + t) := by unfold aM1; rw [if_neg (by omega), if_neg (by omega), if_neg (by omega)]
    have e200 : aM1 R w mm (200 + t) = R (200 + t) := by unfold aM1; rw [if_neg (by omega), if_neg (by omega), if_neg (by omega)]
    have ea : ∀ i, i < 30 → va_cpy us (va_cpy F ln 0 (mm * 30) 24) 0 (mm * 30 + 24) 6 (t * 30 + i) = ln (t * 30 + i) := by
      intro i hi
      rw [pk_cpy_out (by omega), pk_cpy_out (by omega)]
    obtain ⟨⟨a1, a2⟩, a3⟩ := hL t (by omega)
    rw [e40, e200]
    refine ⟨⟨fun i hi => (ea i (by have := hi.1; omega)).trans (a1 i hi), ?_⟩, fun j hj => ?_⟩
    · rcases a2 with h | ⟨h0, it, sg, h1, h2, h3⟩
      · exact Or.inl h
      · exact Or.inr ⟨h0, it, sg, h1, (ea 11 (by decide)).trans h2, h3⟩
    · rw [show t * 30 + 24 + j = t * 30 + (24 + j) by omega, ea (24 + j) (by omega), ← show t * 30 + 24 + j = t * 30 + (24 + j) by omega]
      exact a3 j hj
end MC
section M8
variable {R : Rw} {w nt k k9 j ci it mm : Nat} {sd fn st me pd wb : Nat → Int32}
theorem dat_s (h : datC w sd fn st me R) : datC w sd fn st me (aMs R w k j) := by
  unfold datC
  rw [aMs_n (by decide) (by decide), aMs_n (by decide) (by decide), aMs_n (by decide) (by decide)]
  exact h
theorem con_bw {C B : Nat → Int32} (h : conG w C B) (hc : conC pd wb C B) (hi : it < 36) : wb it = -1 ∨ ∃ k, k < w ∧ wb it = nI k := by
  rw [hc.2.2.2.2.2.2.1 it hi]
  exact h.2.2.2.2 it hi
theorem ok_mj (h : okA w nt k9 (aMs R w k j)) (hm : k9 < 120) (e : k9 = k + j) : okA w nt (k9 + 1) (aMs R w k (j + 1)) := by
  subst e
  exact ok_m1 h hm
theorem mo_e {f : Nat → Int32} {m : Nat} (e : k9 = k + j) (h : nowC m f (aM1 (aMs R w k j) w k9 5)) : nowC m f (aMs R w k (j + 1) 5) := by
  subst e
  exact h
theorem mo_e10 (e : k9 = k + j) {x : Int32} (h : aM1 (aMs R w k j) w k9 5 10 = x ∨ aM1 (aMs R w k j) w k9 5 10 = -1) : aMs R w k (j + 1) 5 10 = x ∨ aMs R w k (j + 1) 5 10 = -1 := by
  subst e
  exact h
theorem mo_eN (e : k9 = k + j) (h : aM1 (aMs R w k j) w k9 5 10 = -1) : aMs R w k (j + 1) 5 10 = -1 := by
  subst e
  exact h
theorem mo_eL {ln : Nat → Int32} {m : Nat} (e : k9 = k + j) (h : lnC ln m (aM1 (aMs R w k j) w k9)) : lnC ln m (aMs R w k (j + 1)) := by
  subst e
  exact h
end M8
