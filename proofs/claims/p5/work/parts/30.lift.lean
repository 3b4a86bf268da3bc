/-! consequence, frame, order and room at the level of contracts -/
theorem pw_P {D : va_G} {cl : List vw_C} {X Y : va_W} {H : Heap} (hp : X.Perm Y) (h : va_P D cl X H) : va_P D cl Y H := by
  intro k q hk
  obtain ⟨i, hi⟩ := List.getElem?_of_mem (hp.mem_iff.mpr (List.mem_of_getElem? hk))
  exact h i q hi
theorem pw_D0 {A : Nat → Prop} {X : va_W} : va_D A X ↔ (X.map (fun q => q.1)).Nodup ∧ ∀ q ∈ X, A q.1 := by
  constructor
  · intro h
    refine ⟨?_, fun q hq => ?_⟩
    · rw [List.Nodup, List.pairwise_iff_getElem]
      intro i j hi hj hij
      simp only [List.length_map] at hi hj
      simp only [List.getElem_map]
      intro e
      have := h.1 i j X[i] X[j] (List.getElem?_eq_getElem hi) (List.getElem?_eq_getElem hj) e
      omega
    · obtain ⟨i, hi⟩ := List.getElem?_of_mem hq
      exact h.2 i q hi
  · intro h
    refine ⟨fun i j p q hi hj e => ?_, fun k q hk => h.2 q (List.mem_of_getElem? hk)⟩
    obtain ⟨hi1, rfl⟩ := List.getElem?_eq_some_iff.mp hi
    obtain ⟨hj1, rfl⟩ := List.getElem?_eq_some_iff.mp hj
    have hn := List.pairwise_iff_getElem.mp h.1
    rcases Nat.lt_trichotomy i j with q | q | q
    · exact (hn i j (by simpa using hi1) (by simpa using hj1) q (by simp only [List.getElem_map]; exact e)).elim
    · exact q
    · exact (hn j i (by simpa using hj1) (by simpa using hi1) q (by simp only [List.getElem_map]; exact e.symm)).elim
theorem pw_D {A : Nat → Prop} {X Y : va_W} (hp : X.Perm Y) (h : va_D A X) : va_D A Y := by
  rw [pw_D0] at h ⊢
  exact ⟨(hp.map _).nodup_iff.mp h.1, fun q hq => h.2 q (hp.mem_iff.mpr hq)⟩
theorem pw_A {X Y : va_W} {sz : Nat} (hp : X.Perm Y) : va_A X sz = va_A Y sz := by
  funext q
  apply propext
  constructor
  · rintro (⟨k, e, h⟩ | h)
    · obtain ⟨i, hi⟩ := List.getElem?_of_mem (hp.mem_iff.mp (List.mem_of_getElem? h)); exact Or.inl ⟨i, e, hi⟩
    · exact Or.inr h
  · rintro (⟨k, e, h⟩ | h)
    · obtain ⟨i, hi⟩ := List.getElem?_of_mem (hp.mem_iff.mpr (List.mem_of_getElem? h)); exact Or.inl ⟨i, e, hi⟩
    · exact Or.inr h
theorem lf_sub {X R : va_W} {sz q : Nat} (h : va_A X sz q) : va_A (X ++ R) sz q := by
  rcases h with ⟨k, e, h⟩ | h
  · exact Or.inl ⟨k, e, by rw [List.getElem?_append_left (List.getElem?_eq_some_iff.mp h).1]; exact h⟩
  · exact Or.inr h
theorem lf_hC (X R : va_W) : (List.range X.length).map (fun i => (X ++ R)[i]?) = X.map some := by
  apply List.ext_getElem?
  intro i
  rw [List.getElem?_map, List.getElem?_map]
  rcases Nat.lt_or_ge i X.length with h | h
  · rw [List.getElem?_range h]
    show some ((X ++ R)[i]?) = _
    rw [List.getElem?_append_left h, List.getElem?_eq_getElem h]
    rfl
  · rw [List.getElem?_eq_none (by simpa using h), List.getElem?_eq_none h]
    rfl
theorem lf_pre {g : he_G} {W ws R : va_W} {sz : Nat} {U : State} (hp : W.Perm (ws ++ R)) (h : he_pre g W sz U) : he_pre g ws sz U := by
  obtain ⟨h1, h2, h3, h4, h5⟩ := h
  have h4' := pw_D0.mp (pw_D hp h4)
  refine ⟨h1, fun k q hk => pw_P hp h2 k q (by rw [List.getElem?_append_left (List.getElem?_eq_some_iff.mp hk).1]; exact hk), h3, pw_D0.mpr ⟨?_, fun q hq => trivial⟩, ?_⟩
  · have := h4'.1
    rw [List.map_append] at this
    exact (List.nodup_append.mp this).1
  · rw [pw_A hp] at h5
    exact h5.narrow (fun q hq => lf_sub hq)
theorem lf_post {g : he_G} {W ws R w1 W' : va_W} {sz : Nat} {s t : State} (hw : W.Perm (ws ++ R)) (hw' : W'.Perm (w1 ++ R)) (hp : he_pre g W sz s) (hb : he_post g (va_A ws sz) w1 t) (hF : va_F (va_A ws sz) s t) : he_post g (va_A W sz) W' t ∧ va_F (va_A W sz) s t := by
  obtain ⟨rfl, h2, h3, h4, h5⟩ := hp
  have h2' := pw_P hw h2
  have h4' := pw_D hw h4
  obtain ⟨a1, a2⟩ := va_join h2' (h4'.self (sz := s.heap.size)) (List.range ws.length) (he_is [] ws R) (lf_hC ws R) (he_ixP (isX := []) (wcX := []) rfl) (he_ndP rfl rfl) (he_disN (fun i h => absurd h List.not_mem_nil) (by simp)) (fun q hq hA => hF.2 q hq hA) (fun q hq => lf_sub hq) hb.1 hb.2
  have pp : (([] ++ R) ++ w1).Perm W' := List.perm_append_comm.trans hw'.symm
  rw [pw_A hw]
  exact ⟨⟨pw_P pp a1, pw_D pp a2⟩, hF.1, fun q h6 h7 => hF.2 q h6 (fun h8 => h7 (lf_sub h8))⟩
section HLF
variable {S S' : Type} {l : Launch} {y : MethodName} {wl : List Cond} {fr lo mc ms fr' lo' mc' ms' : Nat} {g : he_G} {av : List Value} {ws W : va_W} {w1 : S → va_W} {w1' : S' → va_W}
theorem he_liftI {post : Int32 → S → Prop} {post' : Int32 → S' → Prop} (R : va_W) (h : he_I l y wl fr lo mc ms g av ws post w1) (hr : fr ≤ fr' ∧ lo ≤ lo' ∧ mc ≤ mc' ∧ ms ≤ ms') (hw : W.Perm (ws ++ R)) (hpost : ∀ r u, post r u → ∃ u', post' r u' ∧ (w1' u').Perm (w1 u ++ R)) : he_I l y wl fr' lo' mc' ms' g av W post' w1' := by
  intro sz p e ha hc hk s m args below hf happ hP hK
  obtain ⟨rfl, hp⟩ := hP
  obtain ⟨n, o, a1, a2, a3, ⟨⟨r, u, ho, hpo, hB⟩, hF⟩, L, hL1, hL2⟩ := MetFree.respec (S' := headSpec wl (he_room fr' lo' mc' ms')) (h sz) (fun _ _ h => h) hr.1 hr.2.1 hr.2.2.1 hr.2.2.2 p e ha hc hk s m _ below hf happ ⟨rfl, lf_pre hw hp⟩ hK
  obtain ⟨u', hp', hw'⟩ := hpost r u hpo
  obtain ⟨b1, b2⟩ := lf_post hw hw' hp hB hF
  exact ⟨n, o, a1, a2, a3, ⟨⟨r, u', ho, hp', b1⟩, b2⟩, L, ⟨hL1.1, hL1.2.1, hL1.2.2.mono hr.2.2.1 hr.2.2.2⟩, fun q hq => by rw [pw_A hw]; exact lf_sub (hL2 q hq)⟩
theorem he_liftJ {post : Int64 → S → Prop} {post' : Int64 → S' → Prop} (R : va_W) (h : he_J l y wl fr lo mc ms g av ws post w1) (hr : fr ≤ fr' ∧ lo ≤ lo' ∧ mc ≤ mc' ∧ ms ≤ ms') (hw : W.Perm (ws ++ R)) (hpost : ∀ r u, post r u → ∃ u', post' r u' ∧ (w1' u').Perm (w1 u ++ R)) : he_J l y wl fr' lo' mc' ms' g av W post' w1' := by
  intro sz p e ha hc hk s m args below hf happ hP hK
  obtain ⟨rfl, hp⟩ := hP
  obtain ⟨n, o, a1, a2, a3, ⟨⟨r, u, ho, hpo, hB⟩, hF⟩, L, hL1, hL2⟩ := MetFree.respec (S' := headSpec wl (he_room fr' lo' mc' ms')) (h sz) (fun _ _ h => h) hr.1 hr.2.1 hr.2.2.1 hr.2.2.2 p e ha hc hk s m _ below hf happ ⟨rfl, lf_pre hw hp⟩ hK
  obtain ⟨u', hp', hw'⟩ := hpost r u hpo
  obtain ⟨b1, b2⟩ := lf_post hw hw' hp hB hF
  exact ⟨n, o, a1, a2, a3, ⟨⟨r, u', ho, hp', b1⟩, b2⟩, L, ⟨hL1.1, hL1.2.1, hL1.2.2.mono hr.2.2.1 hr.2.2.2⟩, fun q hq => by rw [pw_A hw]; exact lf_sub (hL2 q hq)⟩
theorem he_liftV {post : S → Prop} {post' : S' → Prop} (R : va_W) (h : he_V l y wl fr lo mc ms g av ws post w1) (hr : fr ≤ fr' ∧ lo ≤ lo' ∧ mc ≤ mc' ∧ ms ≤ ms') (hw : W.Perm (ws ++ R)) (hpost : ∀ u, post u → ∃ u', post' u' ∧ (w1' u').Perm (w1 u ++ R)) : he_V l y wl fr' lo' mc' ms' g av W post' w1' := by
  intro sz p e ha hc hk s m args below hf happ hP hK
  obtain ⟨rfl, hp⟩ := hP
  obtain ⟨n, o, a1, a2, a3, ⟨⟨u, ho, hpo, hB⟩, hF⟩, L, hL1, hL2⟩ := MetFree.respec (S' := headSpec wl (he_room fr' lo' mc' ms')) (h sz) (fun _ _ h => h) hr.1 hr.2.1 hr.2.2.1 hr.2.2.2 p e ha hc hk s m _ below hf happ ⟨rfl, lf_pre hw hp⟩ hK
  obtain ⟨u', hp', hw'⟩ := hpost u hpo
  obtain ⟨b1, b2⟩ := lf_post hw hw' hp hB hF
  exact ⟨n, o, a1, a2, a3, ⟨⟨u', ho, hp', b1⟩, b2⟩, L, ⟨hL1.1, hL1.2.1, hL1.2.2.mono hr.2.2.1 hr.2.2.2⟩, fun q hq => by rw [pw_A hw]; exact lf_sub (hL2 q hq)⟩
theorem he_liftTi {En : String} {wx W' : va_W} (R : va_W) (h : he_T he_QTi l y wl fr lo mc ms g av ws En wx) (hr : fr ≤ fr' ∧ lo ≤ lo' ∧ mc ≤ mc' ∧ ms ≤ ms') (hw : W.Perm (ws ++ R)) (hw' : W'.Perm (wx ++ R)) : he_T he_QTi l y wl fr' lo' mc' ms' g av W En W' := by
  intro sz p e ha hc hk s m args below hf happ hP hK
  obtain ⟨rfl, hp⟩ := hP
  obtain ⟨n, o, a1, a2, a3, hQ⟩ := MetFree.respec (S' := headSpec wl (he_room fr' lo' mc' ms')) (h sz) (fun _ _ h => h) hr.1 hr.2.1 hr.2.2.1 hr.2.2.2 p e ha hc hk s m _ below hf happ ⟨rfl, lf_pre hw hp⟩ hK
  rcases hQ with ⟨⟨⟨r, u, -, hf9, -⟩, -⟩, -⟩ | ⟨q, ho, E, ce, L, ⟨u, -, ⟨hEn, hB⟩, hF⟩, x1, x2, x3, x4, x5, x6⟩
  · exact hf9.elim
  · obtain ⟨b1, b2⟩ := lf_post hw hw' hp hB hF
    exact ⟨n, o, a1, a2, a3, Or.inr ⟨q, ho, E, ce, L, ⟨u, trivial, ⟨hEn, b1⟩, b2⟩, x1, x2, x3, x4, x5.mono hr.2.2.1 hr.2.2.2, fun q hq => by rw [pw_A hw]; exact lf_sub (x6 q hq)⟩⟩
theorem he_liftTj {En : String} {wx W' : va_W} (R : va_W) (h : he_T he_QTj l y wl fr lo mc ms g av ws En wx) (hr : fr ≤ fr' ∧ lo ≤ lo' ∧ mc ≤ mc' ∧ ms ≤ ms') (hw : W.Perm (ws ++ R)) (hw' : W'.Perm (wx ++ R)) : he_T he_QTj l y wl fr' lo' mc' ms' g av W En W' := by
  intro sz p e ha hc hk s m args below hf happ hP hK
  obtain ⟨rfl, hp⟩ := hP
  obtain ⟨n, o, a1, a2, a3, hQ⟩ := MetFree.respec (S' := headSpec wl (he_room fr' lo' mc' ms')) (h sz) (fun _ _ h => h) hr.1 hr.2.1 hr.2.2.1 hr.2.2.2 p e ha hc hk s m _ below hf happ ⟨rfl, lf_pre hw hp⟩ hK
  rcases hQ with ⟨⟨⟨r, u, -, hf9, -⟩, -⟩, -⟩ | ⟨q, ho, E, ce, L, ⟨u, -, ⟨hEn, hB⟩, hF⟩, x1, x2, x3, x4, x5, x6⟩
  · exact hf9.elim
  · obtain ⟨b1, b2⟩ := lf_post hw hw' hp hB hF
    exact ⟨n, o, a1, a2, a3, Or.inr ⟨q, ho, E, ce, L, ⟨u, trivial, ⟨hEn, b1⟩, b2⟩, x1, x2, x3, x4, x5.mono hr.2.2.1 hr.2.2.2, fun q hq => by rw [pw_A hw]; exact lf_sub (x6 q hq)⟩⟩
theorem he_liftTv {En : String} {wx W' : va_W} (R : va_W) (h : he_T he_QTv l y wl fr lo mc ms g av ws En wx) (hr : fr ≤ fr' ∧ lo ≤ lo' ∧ mc ≤ mc' ∧ ms ≤ ms') (hw : W.Perm (ws ++ R)) (hw' : W'.Perm (wx ++ R)) : he_T he_QTv l y wl fr' lo' mc' ms' g av W En W' := by
  intro sz p e ha hc hk s m args below hf happ hP hK
  obtain ⟨rfl, hp⟩ := hP
  obtain ⟨n, o, a1, a2, a3, hQ⟩ := MetFree.respec (S' := headSpec wl (he_room fr' lo' mc' ms')) (h sz) (fun _ _ h => h) hr.1 hr.2.1 hr.2.2.1 hr.2.2.2 p e ha hc hk s m _ below hf happ ⟨rfl, lf_pre hw hp⟩ hK
  rcases hQ with ⟨⟨⟨u, -, hf9, -⟩, -⟩, -⟩ | ⟨q, ho, E, ce, L, ⟨u, -, ⟨hEn, hB⟩, hF⟩, x1, x2, x3, x4, x5, x6⟩
  · exact hf9.elim
  · obtain ⟨b1, b2⟩ := lf_post hw hw' hp hB hF
    exact ⟨n, o, a1, a2, a3, Or.inr ⟨q, ho, E, ce, L, ⟨u, trivial, ⟨hEn, b1⟩, b2⟩, x1, x2, x3, x4, x5.mono hr.2.2.1 hr.2.2.2, fun q hq => by rw [pw_A hw]; exact lf_sub (x6 q hq)⟩⟩
end HLF
/-- a list in another order, by its places -/
theorem pm_ix {X Y : va_W} (is : List Nat) (hp : is.isPerm (List.range X.length) = true) (h : is.map (fun i => X[i]?) = Y.map some) : Y.Perm X := by
  have e1 : is.filterMap (fun i => X[i]?) = Y := he_fm h
  have e2 : (List.range X.length).filterMap (fun i => X[i]?) = X := he_fm (by have := lf_hC X []; rw [List.append_nil] at this; exact this)
  rw [← e1]
  refine List.Perm.trans ?_ (List.Perm.of_eq e2)
  exact (List.isPerm_iff.mp hp).filterMap _
theorem pm_T {X Y R : va_W} (h : X.Perm (Y ++ R)) (T : va_W) : (X ++ T).Perm (Y ++ (R ++ T)) := by
  rw [← List.append_assoc]
  exact h.append_right T
/-- all of a world, by its places -/
theorem he_all (W : va_W) : (List.range W.length).map (fun i => W[i]?) = W.map some := by have := lf_hC W []; rw [List.append_nil] at this; exact this
theorem he_allnd (n : Nat) : va_nd (List.range n) = true := by
  have h := he_ndP (X := []) (P := List.replicate n (0, .inl (0, 0, .inl (fun _ => 0)))) (isX := []) rfl rfl
  unfold he_is at h
  simpa using h
