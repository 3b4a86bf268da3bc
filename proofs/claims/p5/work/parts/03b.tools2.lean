/-! a pool of int arrays behind the listed cells: the rows of the reference's tables -/
def he_f (g : he_G) (ln : Nat → Nat) (M : Nat → Nat → Int32) : Nat → va_E := fun a => .inl (g.2 1, ln a, .inl (M a))
abbrev he_pl (g : he_G) (L : List Nat) (ln : Nat → Nat) (M : Nat → Nat → Int32) : va_W := va_pl L (he_f g ln M)
def he_ro (n : Nat) (r : Nat → Nat) : Nat → Option Nat := fun i => if i < n then some (r i) else none
def he_is (isX : List Nat) (X P : va_W) : List Nat := isX ++ (List.range P.length).map (fun i => i + X.length)
theorem he_ixP {X P wcX : va_W} {isX : List Nat} (h : isX.map (fun i => X[i]?) = wcX.map some) : (he_is isX X P).map (fun i => (X ++ P)[i]?) = (wcX ++ P).map some := by
  unfold he_is
  rw [List.map_append, List.map_append]
  congr 1
  · rw [← h]
    apply List.map_congr_left
    intro i hi
    have h1 : X[i]? ∈ isX.map (fun i => X[i]?) := List.mem_map.mpr ⟨i, hi, rfl⟩
    rw [h] at h1
    obtain ⟨y, -, hy⟩ := List.mem_map.mp h1
    have hlt : i < X.length := by
      rcases Nat.lt_or_ge i X.length with q | q
      · exact q
      · rw [List.getElem?_eq_none q] at hy; cases hy
    exact List.getElem?_append_left hlt
  · rw [List.map_map]
    apply List.ext_getElem?
    intro k
    simp only [List.getElem?_map]
    rcases Nat.lt_or_ge k P.length with q | q
    · rw [List.getElem?_range q]
      simp only [Option.map_some, Function.comp]
      rw [List.getElem?_append_right (by omega), show k + X.length - X.length = k by omega, List.getElem?_eq_getElem q]
      rfl
    · rw [List.getElem?_eq_none (by simpa using q), List.getElem?_eq_none q]
      rfl
theorem he_nd_iff : ∀ l : List Nat, va_nd l = true ↔ l.Nodup := by
  intro l
  induction l with
  | nil => simp [va_nd]
  | cons a r ih => simp [va_nd, ih]
theorem he_ndP {X P : va_W} {isX : List Nat} (h : va_nd isX = true) (hl : isX.all (fun i => decide (i < X.length)) = true) : va_nd (he_is isX X P) = true := by
  rw [he_nd_iff] at h ⊢
  unfold he_is
  rw [List.nodup_append]
  refine ⟨h, ?_, ?_⟩
  · refine List.Pairwise.map _ ?_ (List.nodup_range (n := P.length))
    intro a b hab h9
    exact hab (by omega)
  · intro a ha b hb e
    subst e
    have h1 : a < X.length := by simpa using List.all_eq_true.mp hl a ha
    obtain ⟨c, -, hc⟩ := List.mem_map.mp hb
    omega
theorem he_disP {X P : va_W} {isX isR : List Nat} (h : ∀ i ∈ isR, i ∉ isX) (hl : isR.all (fun i => decide (i < X.length)) = true) : ∀ i ∈ isR, i ∉ he_is isX X P := by
  intro i hi h9
  unfold he_is at h9
  rcases List.mem_append.mp h9 with q | q
  · exact h i hi q
  · have h1 : i < X.length := by simpa using List.all_eq_true.mp hl i hi
    obtain ⟨c, -, hc⟩ := List.mem_map.mp q
    omega
theorem he_disN {X P : va_W} {isX isR : List Nat} (h : ∀ i ∈ isR, i ∉ isX) (hl : isX.all (fun i => decide (i < X.length)) = true) : ∀ i ∈ he_is isR X P, i ∉ isX := by
  intro i hi h9
  unfold he_is at hi
  rcases List.mem_append.mp hi with q | q
  · exact h i q h9
  · have h1 : i < X.length := by simpa using List.all_eq_true.mp hl i h9
    obtain ⟨c, -, hc⟩ := List.mem_map.mp q
    omega
theorem he_fm {X X2 : va_W} {is : List Nat} (h : is.map (fun i => X[i]?) = X2.map some) : is.filterMap (fun i => X[i]?) = X2 := by
  have h1 := congrArg (fun l => l.filterMap id) h
  simpa [List.filterMap_map, Function.comp_def] using h1
theorem he_Psub {D : va_G} {cl : List vw_C} {H : Heap} {X X2 P : va_W} (hP : va_P D cl (X ++ P) H) (isX : List Nat) (h : isX.map (fun i => X[i]?) = X2.map some) : va_P D cl (X2 ++ P) H := hP.sub (he_is isX X P) (he_fm (he_ixP h))
theorem he_Dsub {A : Nat → Prop} {X X2 P : va_W} (hD : va_D A (X ++ P)) (isX : List Nat) (h : isX.map (fun i => X[i]?) = X2.map some) (hn : va_nd isX = true) (hl : isX.all (fun i => decide (i < X.length)) = true) : va_D A (X2 ++ P) := hD.sub (he_is isX X P) (he_ndP hn hl) (he_ixP h)
theorem he_lift {L L1 : List Nat} {ln ln1 : Nat → Nat} {M M1 : Nat → Nat → Int32} {a K : Nat} {z : Nat → Int32} (k9 : ∀ a, a ∈ L → a ∈ L1 ∧ ln1 a = ln a ∧ M1 a = M a) (h : a ∈ L ∧ ln a = K ∧ M a = z) : a ∈ L1 ∧ ln1 a = K ∧ M1 a = z := by
  obtain ⟨h1, h2, h3⟩ := h
  obtain ⟨a1, a2, a3⟩ := k9 a h1
  exact ⟨a1, by rw [a2, h2], by rw [a3, h3]⟩
section HEC
variable {p : Program} {l : Launch} {e : Env} {R : Room} {s : State} {m : MethodId} {args : Array Value} {below : List Frame} {meth : Method} {c : Code} {H : Heap} {locs : List Loc} {cells slots : Nat} {Q : State → Prop} {g : he_G} {A : Nat → Prop} {ws X : va_W} {pc : Nat} {ls : Array Slot} {rest : List Value} {cc : ByteArray} {L : List Nat} {ln : Nat → Nat} {M : Nat → Nat → Int32}
theorem he_aldm (hexec : p.tables.exec = Jvm.exec) (hb : c.code = cc) (hK : va_K g.1 vwCl (he_ty g) s) (hP : va_P g.1 vwCl ws H) (q0 : Nat) {a n : Nat} {r : Nat → Nat} (ha : ws[q0]? = some (a, .inl (g.2 4, n, .inr (.inr (.inr (.inr (he_ro n r))))))) {i : Int32} (k : Nat) (hi : i = nI k) (hk : k < n) (hn : n < 2147483648) (hdg : decode cc pc = .ok (.aaload, 1))
    (kk : W p l e R s m args below meth c H locs cells slots Q (F0 m (pc + 1) ls (.ref (r k) :: rest))) : W p l e R s m args below meth c H locs cells slots Q (F0 m pc ls (.int i :: .ref a :: rest)) := by
  obtain ⟨h1, h2⟩ := he_in hi hk hn
  refine W.aald (v := .ref (r k)) (ty := .array .int) hexec hb (hP q0 _ ha) ((hK.2 4 _ rfl).1 n (fun j => va_rf (he_ro n r j))) rfl (fun q => by cases q) (by show ¬ (i < 0 ∨ (arrV _ _ _).slots.size ≤ _); rw [arrV_size]; exact h1) (by show (arrV _ _ _).slots[_]? = _; rw [h2, arrV_read _ _ hk]; simp [he_ro, hk, va_rf]) rfl rfl hdg kk
theorem he_pald (hexec : p.tables.exec = Jvm.exec) (hb : c.code = cc) (hK : va_K g.1 vwCl (he_ty g) s) (hP : va_P g.1 vwCl (X ++ he_pl g L ln M) H) {a : Nat} (ha : a ∈ L) {i : Int32} (k : Nat) (hi : i = nI k) (hk : k < ln a) (hn : ln a < 2147483648) (v : Int32) (hv : M a k = v) (hdg : decode cc pc = .ok (.iaload, 1))
    (kk : W p l e R s m args below meth c H locs cells slots Q (F0 m (pc + 1) ls (.int v :: rest))) : W p l e R s m args below meth c H locs cells slots Q (F0 m pc ls (.int i :: .ref a :: rest)) := by
  obtain ⟨q0, hq⟩ := va_pl_get (X := X) (f := he_f g ln M) ha
  exact he_iald hexec hb hK hP q0 (n := ln a) (f := M a) hq k hi hk hn v hv hdg kk
theorem he_past (hexec : p.tables.exec = Jvm.exec) (hb : c.code = cc) (hK : va_K g.1 vwCl (he_ty g) s) (hP : va_P g.1 vwCl (X ++ he_pl g L ln M) H) (hD : va_D A (X ++ he_pl g L ln M)) (hS : va_S A s.heap H locs) {a : Nat} (ha : a ∈ L) {i : Int32} (k : Nat) (hi : i = nI k) (hk : k < ln a) (hn : ln a < 2147483648) {x : Int32} (hdg : decode cc pc = .ok (.iastore, 1))
    (kk : ∀ (H1 : Heap) (locs1 : List Loc), va_P g.1 vwCl (X ++ he_pl g L ln (va_up M a (upd (M a) k x))) H1 → va_D A (X ++ he_pl g L ln (va_up M a (upd (M a) k x))) → va_S A s.heap H1 locs1 → W p l e R s m args below meth c H1 locs1 cells slots Q (F0 m (pc + 1) ls rest)) : W p l e R s m args below meth c H locs cells slots Q (F0 m pc ls (.int x :: .int i :: .ref a :: rest)) := by
  obtain ⟨q0, hq⟩ := va_pl_get (X := X) (f := he_f g ln M) ha
  refine he_iast hexec hb hK hP hD hS q0 (n := ln a) (f := M a) hq k hi hk hn hdg (fun H1 locs1 hP1 hD1 hS1 => ?_)
  have e1 : (X ++ he_pl g L ln M).set q0 (a, .inl (g.2 1, ln a, .inl (upd (M a) k x))) = X ++ he_pl g L ln (va_up M a (upd (M a) k x)) := by
    rw [va_pl_set hD ha hq]
    congr 1
    apply va_pl_congr
    intro b
    unfold va_up he_f
    by_cases h9 : b = a
    · subst h9; simp
    · simp [h9]
  rw [e1] at hP1 hD1
  exact kk H1 locs1 hP1 hD1 hS1
/-- new int[N][K] -/
theorem he_mna (hexec : p.tables.exec = Jvm.exec) (hb : c.code = cc) {own : String} {index : Nat} (hown : s.vm.findClass own = some m.cls) (hclink : (Cond.classLink own index "[[I").before args s = true) (hover : va_AOA .int s) (harr : (Cond.arrayClass .int).before args s = true) (hK : va_K g.1 vwCl (he_ty g) s) (hP : va_P g.1 vwCl (X ++ he_pl g L ln M) H) (hD : va_D A (X ++ he_pl g L ln M)) (hS : va_S A s.heap H locs) (hA : ∀ q, s.heap.size ≤ q → A q) {n k : Int32} (N K : Nat) (hn : ¬ n < 0) (hk : ¬ k < 0) (hN : n.toNatClampNeg = N) (hM : k.toNatClampNeg = K)
    (hb1 : N * 4 ≤ 536870912) (hb2 : K * 4 ≤ 536870912) (hb3 : K ≤ 536870912) (hcells : cells + (1 + N) ≤ R.cells) (hslots : slots + (N + N * K) ≤ R.slots) (hdg : decode cc pc = .ok (.multianewarray index 2, 4))
    (kk : ∀ (q : Nat) (r : Nat → Nat) (L1 : List Nat) (ln1 : Nat → Nat) (M1 : Nat → Nat → Int32) (H1 : Heap), (∀ a, a ∈ L → a ∈ L1 ∧ ln1 a = ln a ∧ M1 a = M a) → (∀ i, i < N → r i ∈ L1 ∧ ln1 (r i) = K ∧ M1 (r i) = fun _ => 0) → (∀ i, i < N → r i ∉ L) → (∀ i j, i < N → j < N → r i = r j → i = j) →
      va_P g.1 vwCl ((X ++ [(q, .inl (g.2 4, N, .inr (.inr (.inr (.inr (he_ro N r))))))]) ++ he_pl g L1 ln1 M1) H1 → va_D A ((X ++ [(q, .inl (g.2 4, N, .inr (.inr (.inr (.inr (he_ro N r))))))]) ++ he_pl g L1 ln1 M1) → va_S A s.heap H1 locs →
      W p l e R s m args below meth c H1 locs (cells + 1 + N) (slots + N + N * K) Q (F0 m (pc + 4) ls (.ref q :: rest))) : W p l e R s m args below meth c H locs cells slots Q (F0 m pc ls (.int k :: .int n :: rest)) := by
  have hcy : s.vm.findClass (FieldType.array .int).toString = some (g.2 1) := (hK.2 1 (g.2 1, .int) rfl).2
  refine va_mna (z := (K, .inl (fun _ => 0))) hexec hb hown hclink hover harr hcy hK hP hD hS hA hn hk hN hM hb1 hb2 hb3 rfl rfl hcells hslots (fun cA => by show ({ cls := cA, slots := Array.replicate K (.int 0), vm := .none } : Cell) = _; rw [arrV_new]; rfl) hdg (fun q r cA H1 hinj hfr hK1 hP1 hD1 hS1 => ?_)
  have h1 := (hK1.2 6 (cA, .array .int) rfl).2
  have h2 := (hK.2 4 (g.2 4, .array .int) rfl).2
  have e : cA = g.2 4 := he_same h1 h2
  subst e
  have e2 : va_pl (L ++ (List.range N).map r) (vr_up (he_f g ln M) ((List.range N).map r) (.inl (g.2 1, K, .inl (fun _ => 0)))) = he_pl g (L ++ (List.range N).map r) (vr_up ln ((List.range N).map r) K) (vr_up M ((List.range N).map r) (fun _ => 0)) := by
    apply va_pl_congr
    intro b
    unfold vr_up he_f
    by_cases h9 : b ∈ (List.range N).map r
    · simp only [if_pos h9]
    · simp only [if_neg h9]
  rw [e2] at hP1 hD1
  refine kk q r _ _ _ H1 (fun a ha => ?_) (fun i hi => ?_) hfr hinj hP1 hD1 hS1
  · have h9 : a ∉ (List.range N).map r := by
      intro h
      obtain ⟨i, hi, rfl⟩ := List.mem_map.mp h
      exact hfr i (List.mem_range.mp hi) ha
    exact ⟨List.mem_append_left _ ha, vr_up_ne h9, vr_up_ne h9⟩
  · have h9 : r i ∈ (List.range N).map r := List.mem_map.mpr ⟨i, List.mem_range.mpr hi, rfl⟩
    exact ⟨List.mem_append_right _ h9, vr_up_in h9, vr_up_in h9⟩
end HEC
