/-! tools for the law: methods with an exception table, the row of one long, the script -/
section HLA
variable {p : Program} {l : Launch} {e : Env} {R : Room} {s : State} {m : MethodId} {args : Array Value} {below : List Frame} {meth : Method} {c : Code} {H : Heap} {locs : List Loc} {cells slots : Nat} {Q : State → Prop} {g : he_G} {A : Nat → Prop} {ws wc wr : va_W} {pc : Nat} {ls : Array Slot} {rest st0 : List Value} {cc : ByteArray}
theorem he_lald (hexec : p.tables.exec = Jvm.exec) (hb : c.code = cc) (hK : va_K g.1 vwCl (he_ty g) s) (hP : va_P g.1 vwCl ws H) (q0 : Nat) {a n : Nat} {f : Nat → Int64} (ha : ws[q0]? = some (a, .inl (g.2 5, n, .inr (.inl f)))) {i : Int32} (k : Nat) (hi : i = nI k) (hk : k < n) (hn : n < 2147483648) (v : Int64) (hv : f k = v) (hdg : decode cc pc = .ok (.laload, 1))
    (kk : W p l e R s m args below meth c H locs cells slots Q (F0 m (pc + 1) ls (.long v :: rest))) : W p l e R s m args below meth c H locs cells slots Q (F0 m pc ls (.int i :: .ref a :: rest)) := by
  obtain ⟨h1, h2⟩ := he_in hi hk hn
  refine va_lald hexec hb hK hP q0 5 ha rfl h1 hdg ?_
  rw [h2, hv]
  exact kk
theorem he_last (hexec : p.tables.exec = Jvm.exec) (hb : c.code = cc) (hK : va_K g.1 vwCl (he_ty g) s) (hP : va_P g.1 vwCl ws H) (hD : va_D A ws) (hS : va_S A s.heap H locs) (q0 : Nat) {a n : Nat} {f : Nat → Int64} (ha : ws[q0]? = some (a, .inl (g.2 5, n, .inr (.inl f)))) {i : Int32} (k : Nat) (hi : i = nI k) (hk : k < n) (hn : n < 2147483648) {x : Int64} (hdg : decode cc pc = .ok (.lastore, 1))
    (kk : ∀ (H1 : Heap) (locs1 : List Loc), va_P g.1 vwCl (ws.set q0 (a, .inl (g.2 5, n, .inr (.inl (vp_updL f k x))))) H1 → va_D A (ws.set q0 (a, .inl (g.2 5, n, .inr (.inl (vp_updL f k x))))) → va_S A s.heap H1 locs1 → W p l e R s m args below meth c H1 locs1 cells slots Q (F0 m (pc + 1) ls rest)) : W p l e R s m args below meth c H locs cells slots Q (F0 m pc ls (.long x :: .int i :: .ref a :: rest)) := by
  obtain ⟨h1, h2⟩ := he_in hi hk hn
  refine va_last hexec hb hK hP hD hS q0 5 ha rfl h1 hdg ?_
  rw [h2]
  exact kk
theorem he_newl (hexec : p.tables.exec = Jvm.exec) (hb : c.code = cc) (harr : (Cond.arrayClass .long).before args s = true) (hK : va_K g.1 vwCl (he_ty g) s) (hP : va_P g.1 vwCl ws H) (hD : va_D A ws) (hS : va_S A s.heap H locs) (hA : ∀ q, s.heap.size ≤ q → A q)
    {n : Int32} (N : Nat) (hn : ¬ n < 0) (hN : n.toNatClampNeg = N) (hbytes : N * componentBytes .long ≤ 536870912) (hcells : cells + 1 ≤ R.cells) (hslots : slots + N ≤ R.slots) (hdg : decode cc pc = .ok (.newarray .long, 2))
    (kk : ∀ (q : Nat) (H1 : Heap), va_P g.1 vwCl (ws ++ [(q, .inl (g.2 5, N, .inr (.inl (fun _ => 0))))]) H1 → va_D A (ws ++ [(q, .inl (g.2 5, N, .inr (.inl (fun _ => 0))))]) → va_S A s.heap H1 locs →
      W p l e R s m args below meth c H1 locs (cells + 1) (slots + N) Q (F0 m (pc + 2) ls (.ref q :: rest))) : W p l e R s m args below meth c H locs cells slots Q (F0 m pc ls (.int n :: rest)) := by
  refine va_newa (a0 := (N, .inr (.inl (fun _ => 0)))) hexec hb (atype := .long) harr rfl hK hP hD hS hA (fun cA => rfl) hn hN hbytes hcells hslots hdg (fun q cA H1 hK1 hP1 hD1 hS1 => ?_)
  have h1 := (hK1.2 6 (cA, .long) rfl).2
  have h2 := (hK.2 5 (g.2 5, .long) rfl).2
  have e : cA = g.2 5 := he_same h1 h2
  rw [e] at hP1 hD1
  exact kk q H1 hP1 hD1 hS1
theorem he_sld (hexec : p.tables.exec = Jvm.exec) (hb : c.code = cc) {b L : Nat} {xs : Nat → Int32} (hX : va_X b L xs s s.heap) (hbl : b < s.heap.size) (hbA : ¬ A b) (hS : va_S A s.heap H locs) {i : Int32} (k : Nat) (hi : i = nI k) (hk : k < L) (hL : L < 2147483648) (v : Int32) (hv : xs k = v) (hdg : decode cc pc = .ok (.iaload, 1))
    (kk : W p l e R s m args below meth c H locs cells slots Q (F0 m (pc + 1) ls (.int v :: rest))) : W p l e R s m args below meth c H locs cells slots Q (F0 m pc ls (.int i :: .ref b :: rest)) := by
  obtain ⟨h1, h2⟩ := he_in hi hk hL
  refine va_sld hexec hb hX hbl hbA hS h1 hdg ?_
  rw [h2, hv]
  exact kk
end HLA
theorem vp_updL_s (f : Nat → Int64) (k : Nat) (x : Int64) : vp_updL f k x k = x := by simp [vp_updL]
theorem lcmp_0 {x y : Int64} (h : x = y) : lg_cmp x y = 0 := by subst h; simp [lg_cmp, Int64.lt_irrefl]
section HLB
variable {l : Launch} {g : he_G} {y : MethodName} {wl wl' : List Cond} {cc : ByteArray} {maxL fr lo mc ms : Nat} {av : List Value} {ws : va_W}
theorem he_beginH {ret : Option FieldType} {hh : List (Nat × Nat × Nat × Nat)} (Qf : (Nat → Prop) → Array Value → State → Outcome → State → Prop) (hy : plainName y.cls = true) (hw : wl = Cond.codeWith y cc maxL ret hh :: wl') (hav : (lg_sl av).length ≤ maxL)
    (body : ∀ (p : Program) (e : Env) (s : State) (m : MethodId) (args : Array Value) (below : List Frame) (meth : Method) (c : Code) (A : Nat → Prop) (ls : Array Slot) (H : Heap) (locs : List Loc) (Q : State → Prop), Q = MQ below (Qf A) args s mc ms A → c.exceptionTable.toList = tableOf hh → he_B p s m args meth c A ls H locs g y wl cc maxL ret av ws →
      W p l e (he_room fr lo mc ms) s m args below meth c H locs 0 0 Q (F0 m 0 ls [])) (sz : Nat) : Met l y wl (he_room fr lo mc ms) (va_Pc av (he_pre g ws sz)) (Qf (va_A ws sz)) mc ms (va_A ws sz) := by
  refine MetFree.of_bodyS (code := cc) (maxLocals := maxL) (ret := ret) hy ?_ ?_
  · intro args s m h hn
    obtain ⟨m9, meth, c, hn9, h1, h2, h3, h4, -, h5, h6, -⟩ := Cond.codeWith_spec (atoms_spec (ws := wl) h _ (by rw [hw]; exact List.mem_cons_self))
    cases hn.symm.trans hn9
    exact ⟨meth, c, h1, h2, h3, h4, h5, h6⟩
  · intro p e s m args below meth c s₁ B hml hv _
    have hh0 : s₁.heap = s.heap := by rw [B.state]; rfl
    obtain ⟨rfl, hsz, hP, hK, hD0, hE⟩ := hv
    subst hsz
    have hD := hD0.self (sz := s.heap.size)
    have hl := lv_entry av (n := maxL) hav
    have ht := vx_table (x := y) B (atoms_spec (ws := wl) B.pre _ (by rw [hw]; exact List.mem_cons_self))
    have hk := body p e s m _ below meth c (va_A ws s.heap.size) _ _ _ _ rfl ht ⟨B.exec, B.bytes, B.returns, hml, findClass_of_methodNamed B.named, atoms_spec (ws := wl) B.pre, B.notSynchronized, (name_of_methodNamed B.named B.method).1, hP, hK, hD, va_S.rf, fun q h => Or.inr h, hE, hl⟩
    rw [← lg_entry_eq] at hk
    obtain ⟨t, a1, o, b1, b2, b3⟩ := hk s₁ hh0 (Stand.of_body B)
    exact ⟨t, o, a1, b1, b2, ⟨b3.1, b3.2⟩⟩
end HLB
