/-! months, the reference's side -/
def datR (w : Nat) (tl : Nat → Int32) (M : Nat → Nat → Int32) (r2 : Nat → Nat) (R : Rw) : Prop := (∀ i, 0 < i → i < 25 → tl i = R 2 i) ∧ ∀ k, k < w → M (r2 k) 0 = R 3 k ∧ M (r2 k) 1 = R 4 k
def conR (C0 B0 C B : Nat → Int32) : Prop := (∀ i, i < 7 → C0 i = C i) ∧ ∀ m, m < 36 → B0 m = B m
def goR (r5 r6 : Nat → Nat) (M : Nat → Nat → Int32) (mm : Nat) (R : Rw) : Prop := ∀ t, t < mm → (∀ i, i < 24 → M (r5 t) i = R (40 + t) i) ∧ ∀ q, q < 6 → M (r6 t) q = R (200 + t) q
def mP (i : Nat) : Prop := i < 24
theorem mP_in : inP mP := fun _ h1 _ => h1
section RO
variable {tl F f uf : Nat → Int32} {M Mj M1 M2 Mu : Nat → Nat → Int32} {r2 r3 r4 r5 r6 : Nat → Nat} {R : Rw} {w nt mm ci q2 ck q5 it : Nat}
theorem now_it (hok : okA w nt mm R) (h10 : R 5 10 = nI ci) (hcn : ci < nt) (hq5 : R (10 + ci) 5 = nI q5) (hq : q5 ≤ 36) : ∃ it, R 5 11 = nI it ∧ it < q5 ∧ it ≤ mm := by
  obtain ⟨-, hn, -, -, -, -, hN, -, -⟩ := hok
  rcases hN with ⟨a, -⟩ | ⟨c, i2, h1, h2, h3, h4, h5⟩
  · exact absurd (h10.symm.trans a) (nI_nm1 (by omega))
  · have ec : c = ci := nI_j (by omega) (by omega) (h2.symm.trans h10)
    rw [ec, hq5, toN_I (by omega)] at h5
    exact ⟨i2, h3, h5, h4⟩
theorem ro_in (hok : okA w nt mm R) (hm : mm < 120) (hdat : datR w tl M2 r2 R) (hcon : conR (M2 (r3 ci)) (M2 (r4 ci)) (R (10 + ci)) (R (20 + ci))) (hcn : ci < nt) (hq2 : M2 (r3 ci) 2 = nI q2) (hq9 : q2 ≤ 9) (hck : M2 (r3 ci) 3 = nI ck) (hc99 : ck ≤ 99) (hq5 : M2 (r3 ci) 5 = nI q5) (hq36 : q5 ≤ 36) (hN : eqP mP F (R 5)) (h10 : R 5 10 = nI ci) (h11 : R 5 11 = nI it) (hlt : it < q5) (hz : ∀ q, q < 6 → M2 (r6 mm) q = 0)
    (e1 : uf = rMonP tl (fun i => M2 (r2 i) 0) (fun i => M2 (r2 i) 1) (M2 (r3 ci)) (M2 (r4 ci) it) q2 ck q5 it w mm F (M2 (r6 mm))) (e2 : Mu = va_up M2 (r6 mm) (rMonG tl (fun i => M2 (r2 i) 0) (M2 (r3 ci)) (M2 (r4 ci) it) q2 ck w mm F (M2 (r6 mm)))) : eqP mP uf (aM1 R w mm 5) ∧ (aM1 R w mm 5 10 = nI ci ∨ aM1 R w mm 5 10 = -1) ∧ (∀ q, q < 6 → Mu (r6 mm) q = aM1 R w mm (200 + mm) q) ∧ ∀ a, a ≠ r6 mm → Mu a = M2 a := by
  have hw := hok.1
  have hn := hok.2.1
  obtain ⟨-, -, hq, hb, hB⟩ := hok.2.2.2.2.2.2.2.1 ci hcn
  obtain ⟨c0, c6⟩ := hcon
  have ew : M2 (r4 ci) it = R (20 + ci) it := c6 it (by omega)
  rw [ew] at e1 e2
  have hd := hB it (by omega)
  have cg := cg_monP (P := mP) (T := tl) (T2 := R 2) (R3 := fun i => M2 (r2 i) 0) (S3 := R 3) (R4 := fun i => M2 (r2 i) 1) (S4 := R 4) (C := M2 (r3 ci)) (C2 := R (10 + ci)) (f := F) (F := R 5) (g := M2 (r6 mm)) (G := fun _ => 0) (ck := ck) (q5 := q5) (it := it) (mm := mm) mP_in hd hw hq9 hdat.1 (fun k hk => (hdat.2 k hk).1) (fun k hk => (hdat.2 k hk).2) (c0 0 (by decide)) (c0 1 (by decide)) (c0 4 (by decide)) hN hz
  have k2 : R (10 + ci) 2 = nI q2 := (c0 2 (by decide)).symm.trans hq2
  have k3 : R (10 + ci) 3 = nI ck := (c0 3 (by decide)).symm.trans hck
  have k5 : R (10 + ci) 5 = nI q5 := (c0 5 (by decide)).symm.trans hq5
  have eA : aM1 R w mm 5 = rMonP (R 2) (R 3) (R 4) (R (10 + ci)) (R (20 + ci) it) q2 ck q5 it w mm (R 5) (fun _ => 0) := by
    show (if (5 : Nat) = 5 then aMon R w mm else _) = _
    rw [if_pos rfl]
    unfold aMon
    rw [h10, if_neg (nI_nm1 (by omega)), toN_I (by omega), h11, toN_I (by omega), k2, toN_I (by omega), k3, toN_I (by omega), k5, toN_I (by omega)]
  have eG : aM1 R w mm (200 + mm) = rMonG (R 2) (R 3) (R (10 + ci)) (R (20 + ci) it) q2 ck w mm (R 5) (fun _ => 0) := by
    unfold aM1
    rw [if_neg (by omega), if_neg (by omega), if_pos rfl]
    unfold aMonG
    rw [h10, if_neg (nI_nm1 (by omega)), toN_I (by omega), h11, toN_I (by omega), k2, toN_I (by omega), k3, toN_I (by omega)]
  have hnow := mp_now (T := R 2) (R3 := R 3) (R4 := R 4) (C := R (10 + ci)) (q := q2) (ck := ck) (mm := mm) (g := fun _ => 0) hd hw h10 h11 (by omega) hlt
  rw [eA, eG, e1, e2]
  refine ⟨cg.1, hnow.elim (fun h => Or.inr h.1) (fun h => Or.inl h.1), fun q hq => ?_, fun a ha => vupn ha⟩
  rw [vups]
  exact cg.2 q hq
theorem ro_no (hok : okA w nt mm R) (hdat : datR w tl M2 r2 R) (hN : eqP mP F (R 5)) (h10 : R 5 10 = -1) (e1 : uf = rMonN tl (fun i => M2 (r2 i) 0) (fun i => M2 (r2 i) 1) w mm F) (hz : ∀ q, q < 6 → M2 (r6 mm) q = 0) : eqP mP uf (aM1 R w mm 5) ∧ aM1 R w mm 5 10 = -1 ∧ ∀ q, q < 6 → M2 (r6 mm) q = aM1 R w mm (200 + mm) q := by
  have hw := hok.1
  have eA : aM1 R w mm 5 = rMonN (R 2) (R 3) (R 4) w mm (R 5) := by
    show (if (5 : Nat) = 5 then aMon R w mm else _) = _
    rw [if_pos rfl]
    unfold aMon
    rw [if_pos h10]
  have eG : aM1 R w mm (200 + mm) = fun _ => 0 := by
    unfold aM1
    rw [if_neg (by omega), if_neg (by omega), if_pos rfl]
    unfold aMonG
    rw [if_pos h10]
  have cg := cg_monN (P := mP) (T := tl) (T2 := R 2) (R3 := fun i => M2 (r2 i) 0) (S3 := R 3) (R4 := fun i => M2 (r2 i) 1) (S4 := R 4) (f := F) (F := R 5) (mm := mm) mP_in hdat.1 (fun k hk => (hdat.2 k hk).1) (fun k hk => (hdat.2 k hk).2) hw hN
  rw [eA, eG, e1]
  refine ⟨cg, ?_, hz⟩
  unfold rMonN
  rw [upd_n (by decide), (mn_now hw).1]
  exact h10
theorem go_m1 (hg : goR r5 r6 Mj mm R) (hN : eqP mP F (R 5)) (h55 : ∀ a b, a < 121 → b < 121 → r5 a = r5 b → a = b) (h66 : ∀ a b, a < 120 → b < 120 → r6 a = r6 b → a = b) (h56 : ∀ i j, i < 121 → j < 120 → r5 i ≠ r6 j) (hm : mm < 120) (hf : rFill (r5 mm) F Mj M1 25) (hz : rFill (r6 mm) (fun _ => 0) M1 M2 6) (hu : ∀ q, q < 6 → Mu (r6 mm) q = aM1 R w mm (200 + mm) q) (hx : ∀ a, a ≠ r6 mm → Mu a = M2 a) : goR r5 r6 Mu (mm + 1) (aM1 R w mm) := by
  intro t ht
  rw [hx (r5 t) (h56 t mm (by omega) hm), hz.2 (r5 t) (h56 t mm (by omega) hm)]
  by_cases e : t = mm
  · subst e
    have e40 : aM1 R w t (40 + t) = R 5 := by unfold aM1; rw [if_neg (by omega), if_pos rfl]
    rw [e40]
    exact ⟨fun i hi => (hf.1 i (by omega)).trans (hN i hi), hu⟩
  · have e40 : aM1 R w mm (40 + t) = R (40 + t) := by unfold aM1; rw [if_neg (by omega), if_neg (by omega), if_neg (by omega)]
    have e200 : aM1 R w mm (200 + t) = R (200 + t) := by unfold aM1; rw [if_neg (by omega), if_neg (by omega), if_neg (by omega)]
    rw [e40, e200, hf.2 (r5 t) (fun h9 => e (h55 t mm (by omega) (by omega) h9))]
    refine ⟨(hg t (by omega)).1, fun q hq => ?_⟩
    rw [hx (r6 t) (fun h9 => e (h66 t mm (by omega) hm h9)), hz.2 (r6 t) (fun h9 => e (h66 t mm (by omega) hm h9)), hf.2 (r6 t) (fun h9 => h56 mm t (by omega) (by omega) h9.symm)]
    exact (hg t (by omega)).2 q hq
/-- a row that months leave as it is -/
theorem ex_2 {a : Nat} (hmx : mEx2 r5 r6 121 120 M Mj) (hf : rFill (r5 mm) F Mj M1 25) (hz : rFill (r6 mm) (fun _ => 0) M1 M2 6) (hm : mm < 120) (h5 : ∀ i, i < 121 → a ≠ r5 i) (h6 : ∀ i, i < 120 → a ≠ r6 i) : M2 a = M a := (hz.2 a (h6 mm hm)).trans ((hf.2 a (h5 mm (by omega))).trans (hmx a h5 h6))
theorem ex_3 (hmx : mEx2 r5 r6 121 120 M Mj) (hf : rFill (r5 mm) F Mj M1 25) (hz : rFill (r6 mm) (fun _ => 0) M1 M2 6) (hm : mm < 120) (hx : ∀ a, a ≠ r6 mm → Mu a = M2 a) : mEx2 r5 r6 121 120 M Mu := fun a h5 h6 => (hx a (h6 mm hm)).trans (ex_2 hmx hf hz hm h5 h6)
end RO
theorem rMonP_24 {T R3 R4 C f g : Nat → Int32} {due : Int32} {q ck q5 it w mm : Nat} : rMonP T R3 R4 C due q ck q5 it w mm f g 24 = nI (mm + 1) := by
  unfold rMonP rEnd
  split
  · exact upd_s
  · split
    · rw [sg_24, upd_n (by decide), upd_s]
    · rw [upd_n (by decide), upd_s]
/-- the rows of the months gone, and how things stand, within the contracts -/
theorem gOk_m1 {nt mm : Nat} {TQ r5 r6 : Nat → Nat} {F : Nat → Int32} {Mj M1 M2 Mu : Nat → Nat → Int32} (h55 : ∀ a b, a < 121 → b < 121 → r5 a = r5 b → a = b) (h56 : ∀ i j, i < 121 → j < 120 → r5 i ≠ r6 j) (hm : mm < 120) (hg : gOk nt TQ r5 Mj mm) (hf : rFill (r5 mm) F Mj M1 25) (hz : rFill (r6 mm) (fun _ => 0) M1 M2 6) (hx : ∀ a, a ≠ r6 mm → Mu a = M2 a) (hs : sOk nt TQ mm F) : gOk nt TQ r5 Mu (mm + 1) := by
  intro t ht
  rw [hx (r5 t) (h56 t mm (by omega) hm), hz.2 (r5 t) (h56 t mm (by omega) hm)]
  by_cases e : t = mm
  · subst e
    exact sOk_25 hs (fun k hk => hf.1 k hk)
  · rw [hf.2 (r5 t) (fun h9 => e (h55 t mm (by omega) (by omega) h9))]
    exact hg t (by omega)
theorem sOk_A {w nt mm : Nat} {TQ : Nat → Nat} {F : Nat → Int32} {R : Rw} (hok : okA w nt mm R) (hN : eqP mP F (R 5)) (h24 : F 24 = nI mm) (hTR : ∀ c, c < nt → toN (R (10 + c) 5) = TQ c) : sOk nt TQ mm F := by
  obtain ⟨-, -, -, -, -, -, hG, -, -⟩ := hok
  refine ⟨h24, ?_⟩
  have e10 : F 10 = R 5 10 := hN 10 (show 10 < 24 by decide)
  have e11 : F 11 = R 5 11 := hN 11 (show 11 < 24 by decide)
  rcases hG with ⟨a, -⟩ | ⟨c, it, h1, h2, h3, -, h5⟩
  · exact Or.inl (e10.trans a)
  · exact Or.inr ⟨c, it, h1, e10.trans h2, e11.trans h3, by rw [← hTR c h1]; exact h5⟩
theorem aMs_c {R : Rw} {w nt mm j : Nat} {TQ : Nat → Nat} (hn : nt ≤ 6) (hTR : ∀ c, c < nt → toN (R (10 + c) 5) = TQ c) : ∀ c, c < nt → toN (aMs R w mm j (10 + c) 5) = TQ c := fun c hc => by
  rw [aMs_n (by omega) (by omega)]
  exact hTR c hc
