/-! the law's entry: the classes, the statics, the texts, as the Statement gives them -/
/-- what holds at the law's entry: the machine, the code, the tables' words, the script of L ints xs at the cell b, what the Statement gives of the start -/
def lw_At (p : Program) (s : State) (m : MethodId) (meth : Method) (c : Code) (b L : Nat) (xs : Nat → Int32) : Prop :=
  p.tables.exec = Jvm.exec ∧ c.code = code ∧ meth.sig.returnType = ret ∧ c.maxLocals = 8 ∧ s.vm.findClass R_law = some m.cls ∧ (∀ w ∈ lw_tbl, w.before #[Value.ref b] s = true) ∧ va_X b L xs s s.heap ∧ b < s.heap.size ∧ meth.locks = false ∧ (Jvm.Cond.and given_1 narrow_1).before #[Value.ref b] s = true
theorem lw_Ta {args : Array Value} {s : State} {C n : String} {N : Nat} {tb : List Int32} {A : Nat → Prop} (hN : N < 2 ^ 31) (hl : (Cond.laysStatic C n "[I").before args s = true) (hini : (Cond.initialized C).before args s = true) (harr : (Cond.arrayOf (.static C n "[I") .int).before args s = true) (hlen : (Cond.eq (.length (.static C n "[I")) (.int (Int32.ofNat N))).before args s = true) (hel : ∀ j : Nat, j < N → (Cond.eq (.elem (.static C n "[I") (.int (Int32.ofNat j))) (.int (tb.getD j 0))).before args s = true) (hA : ∀ a : Nat, a < s.heap.size → ¬ A a) : he_Ta C n N tb A s s.heap := by
  obtain ⟨t, h1, h2⟩ := va_Tof (f := he_tab tb) hN harr (va_eqt hlen) (fun j hj => va_eqt (hel j hj)) hA
  exact ⟨t, va_Zof hl hini h1 hA, h2⟩
theorem lw_S {args : Array Value} {s : State} {own tx : String} {k : Nat} (h1 : (Cond.stringRef own k tx).before args s = true) (h2 : (Cond.exactly (.string own k) "java/lang/String").before args s = true) : ∃ a : Nat, vk_R own k tx a s := by
  obtain ⟨a, c, cell, k9, q1, -⟩ := Cond.exactly_spec (args := args) (first := s) (o := none) (s := s) (idx := []) h2
  exact ⟨a, vk_R.of h1 q1⟩
theorem lw_Sr {args : Array Value} {s : State} {own tx : String} {k : Nat} {byt : List Int32} {A : Nat → Prop} (h1 : (Cond.stringRef own k tx).before args s = true) (hex : (Cond.exactly (.string own k) "java/lang/String").before args s = true) (hco : (Cond.eq (.field (.string own k) "java/lang/String" "coder" "B") (.int 0)).before args s = true) (har : (Cond.arrayOf (.field (.string own k) "java/lang/String" "value" "[B") .byte).before args s = true) (hN : byt.length < 2 ^ 31) (hle : (Cond.eq (.length (.field (.string own k) "java/lang/String" "value" "[B")) (.int (Int32.ofNat byt.length))).before args s = true) (hel : ∀ j : Nat, j < byt.length → (Cond.eq (.elem (.field (.string own k) "java/lang/String" "value" "[B") (.int (Int32.ofNat j))) (.int (byt.getD j 0))).before args s = true) (hA : ∀ a : Nat, a < s.heap.size → ¬ A a) : ∃ a v : Nat, he_Sr own k tx byt a v A s s.heap := by
  obtain ⟨adK, adV, hS, hev⟩ := vk_Sof (args := args) (s := s) (N := 1) (tm := fun _ => .string own k) (len := [byt.length]) (byt := [byt]) (A := A) (fun i hi => by obtain rfl : i = 0 := (by omega); exact hN) (fun i hi => hex) (fun i hi => hco) (fun i hi => har) (fun i hi => by obtain rfl : i = 0 := (by omega); exact hle) (fun i hi j hj => by obtain rfl : i = 0 := (by omega); exact hel j hj) (fun i j hi hj hne => absurd (by omega) hne) hA
  exact ⟨adK 0, adV 0, vk_R.of h1 (hev 0 (by decide)), (hS.1 0 (by decide)).1, (hS.1 0 (by decide)).2.1, (hS.1 0 (by decide)).2.2.1, (hS.1 0 (by decide)).2.2.2⟩
theorem lw_el5 : ∀ j : Nat, j < he_w6.length → Cond.eq (.elem (.field (.string RX6 34) "java/lang/String" "value" "[B") (.int (Int32.ofNat j))) (.int (he_w6.getD j 0)) ∈ flatC (Jvm.Cond.and given_1 narrow_1) := by decide +kernel
theorem lw_el6 : ∀ j : Nat, j < he_w5.length → Cond.eq (.elem (.field (.string RX5 32) "java/lang/String" "value" "[B") (.int (Int32.ofNat j))) (.int (he_w5.getD j 0)) ∈ flatC (Jvm.Cond.and given_1 narrow_1) := by decide +kernel
theorem lw_nest : ∀ q ∈ he_nest, Cond.methodLinkNest q.1 q.2.1 q.2.2 "HiredEnemy" ∈ lw_tbl := by decide +kernel
theorem lw_decl : ∀ x ∈ he_decl, Cond.declares x ∈ lw_tbl := by decide +kernel
theorem lw_cast : ∀ q ∈ he_cast, Cond.castable q.1 q.2 ∈ lw_tbl := by decide +kernel
theorem lw_el1 : ∀ j : Nat, j < 24 → Cond.eq (.elem (.static RX6 "UNTOLD" "[I") (.int (Int32.ofNat j))) (.int (he_untold.getD j 0)) ∈ flatC (Jvm.Cond.and given_1 narrow_1) := by decide +kernel
theorem lw_el2 : ∀ j : Nat, j < 8 → Cond.eq (.elem (.static RX6 "NUMBERS" "[I") (.int (Int32.ofNat j))) (.int (he_numbers.getD j 0)) ∈ flatC (Jvm.Cond.and given_1 narrow_1) := by decide +kernel
theorem lw_el3 : ∀ j : Nat, j < 24 → Cond.eq (.elem (.static RX6 "HIGH" "[I") (.int (Int32.ofNat j))) (.int (he_high.getD j 0)) ∈ flatC (Jvm.Cond.and given_1 narrow_1) := by decide +kernel
theorem lw_el4 : ∀ j : Nat, j < 6 → Cond.eq (.elem (.static RX5 "HIGH" "[I") (.int (Int32.ofNat j))) (.int (he_pacthigh.getD j 0)) ∈ flatC (Jvm.Cond.and given_1 narrow_1) := by decide +kernel
set_option maxHeartbeats 4000000 in
theorem lw_W0 {s : State} {b : Nat} (hts : ∀ w ∈ lw_tbl, w.before #[Value.ref b] s = true) (hgv : (Jvm.Cond.and given_1 narrow_1).before #[Value.ref b] s = true) : ∃ a6 v6 a5 v5 : Nat, ∀ g : he_G, g.2 10 = a6 → g.2 20 = v6 → g.2 11 = a5 → g.2 21 = v5 → he_W g (lw_A s) s s.heap := by
  have hs := flat_of_before _ hgv
  have hA : ∀ a : Nat, a < s.heap.size → ¬ lw_A s a := fun a h => Nat.not_le.mpr h
  obtain ⟨a6, v6, h6⟩ := lw_Sr (byt := he_w6) (A := lw_A s) (hts (.stringRef RX6 34 "wall duke enemy town fear near mason cost") (by decide +kernel)) (hs _ (by decide +kernel)) (hs _ (by decide +kernel)) (hs _ (by decide +kernel)) (by decide) (hs _ (by decide +kernel)) (fun j hj => hs _ (lw_el5 j hj)) hA
  obtain ⟨a5, v5, h5⟩ := lw_Sr (byt := he_w5) (A := lw_A s) (hts (.stringRef RX5 32 "pay winter near corks bonus till breach") (by decide +kernel)) (hs _ (by decide +kernel)) (hs _ (by decide +kernel)) (hs _ (by decide +kernel)) (by decide) (hs _ (by decide +kernel)) (fun j hj => hs _ (lw_el6 j hj)) hA
  refine ⟨a6, v6, a5, v5, fun g e1 e2 e3 e4 => ⟨⟨va_Zof (hts (.laysStatic RJ0 "COMPACT_STRINGS" "Z") (by decide +kernel)) (hts (.initialized RJ0) (by decide +kernel)) (va_eqt (hs (.eq (.static RJ0 "COMPACT_STRINGS" "Z") (.int 1)) (by decide +kernel))) hA, va_Zqof (hts (.laysStatic RJ3 "SIOOBE_FORMATTER" "Ljava/util/function/BiFunction;") (by decide +kernel)) (hts (.initialized RJ3) (by decide +kernel)) (hs (.isRef (.static RJ3 "SIOOBE_FORMATTER" "Ljava/util/function/BiFunction;")) (by decide +kernel)) hA⟩, ?_, ?_⟩⟩
  · rw [e1, e2]; exact h6
  · rw [e3, e4]; exact h5
set_option maxHeartbeats 4000000 in
theorem lw_E0 {g : he_G} {s : State} {b : Nat} (hW : he_W g (lw_A s) s s.heap) (hts : ∀ w ∈ lw_tbl, w.before #[Value.ref b] s = true) (hgv : (Jvm.Cond.and given_1 narrow_1).before #[Value.ref b] s = true) : he_E g (lw_A s) s s.heap := by
  have hs := flat_of_before _ hgv
  have hA : ∀ a : Nat, a < s.heap.size → ¬ lw_A s a := fun a h => Nat.not_le.mpr h
  refine ⟨?_, ?_, ?_, ?_, ?_, ?_, ?_, ?_, ?_, ?_, ?_, ?_, ?_, ?_, ?_, ?_, hW⟩
  · exact lw_Ta (by decide) (hts _ (by decide +kernel)) (hts _ (by decide +kernel)) (hs _ (by decide +kernel)) (hs _ (by decide +kernel)) (fun j hj => hs _ (lw_el1 j hj)) hA
  · exact lw_Ta (by decide) (hts _ (by decide +kernel)) (hts _ (by decide +kernel)) (hs _ (by decide +kernel)) (hs _ (by decide +kernel)) (fun j hj => hs _ (lw_el2 j hj)) hA
  · exact lw_Ta (by decide) (hts _ (by decide +kernel)) (hts _ (by decide +kernel)) (hs _ (by decide +kernel)) (hs _ (by decide +kernel)) (fun j hj => hs _ (lw_el3 j hj)) hA
  · exact lw_Ta (by decide) (hts _ (by decide +kernel)) (hts _ (by decide +kernel)) (hs _ (by decide +kernel)) (hs _ (by decide +kernel)) (fun j hj => hs _ (lw_el4 j hj)) hA
  · exact vx_Zqof (hts _ (by decide +kernel)) (hts _ (by decide +kernel)) (hs _ (by decide +kernel)) hA
  · exact vx_Zqof (hts _ (by decide +kernel)) (hts _ (by decide +kernel)) (hs _ (by decide +kernel)) hA
  · exact lw_S (hts _ (by decide +kernel)) (hs _ (by decide +kernel))
  · exact lw_S (hts _ (by decide +kernel)) (hs _ (by decide +kernel))
  · exact lw_S (hts _ (by decide +kernel)) (hs _ (by decide +kernel))
  · exact fun q hq => va_Nw.of rfl (hts _ (lw_nest q hq))
  · exact fun q hq => va_Nw.of rfl (hts _ (lw_decl q hq))
  · exact va_AO.of (hts (.arrayOver (.object RX5)) (by decide +kernel))
  · exact va_AO.of (hts (.arrayOver (.object RX8)) (by decide +kernel))
  · exact hts (.arrayOver (.array .int)) (by decide +kernel)
  · exact fun q hq => va_Nw.of rfl (hts _ (lw_cast q hq))
  · exact va_Nc.of (hs _ (by decide +kernel))
set_option maxHeartbeats 4000000 in
theorem lw_prep {p : Program} {s : State} {m : MethodId} {meth : Method} {c : Code} {b L : Nat} {xs : Nat → Int32} (C0 : lw_At p s m meth c b L xs) : ∃ g : he_G, lw_C p s m meth c b L xs g := by
  obtain ⟨hx, hb, hr, hml, hown, hts, hX, hbl, hlk, hgv⟩ := C0
  obtain ⟨c0, i0, k0⟩ := u_known (C := RX0) (T := TX0) (N := 1) (n := 1) hts inX0 (hts (.instantiable RX0 1) (by decide +kernel))
  obtain ⟨c1, i1, k1⟩ := u_known (C := RX1) (T := TX1) (N := 5) (n := 5) hts inX1 (hts (.instantiable RX1 5) (by decide +kernel))
  obtain ⟨c2, i2, k2⟩ := u_known (C := RX2) (T := TX2) (N := 7) (n := 7) hts inX2 (hts (.instantiable RX2 7) (by decide +kernel))
  obtain ⟨c3, i3, k3⟩ := u_known (C := RX3) (T := TX3) (N := 2) (n := 2) hts inX3 (hts (.instantiable RX3 2) (by decide +kernel))
  obtain ⟨c4, i4, k4⟩ := u_known (C := RX4) (T := TX4) (N := 3) (n := 3) hts inX4 (hts (.instantiable RX4 3) (by decide +kernel))
  obtain ⟨c5, i5, k5⟩ := u_known (C := RX5) (T := TX5) (N := 3) (n := 3) hts inX5 (hts (.instantiable RX5 3) (by decide +kernel))
  obtain ⟨c6, i6, k6⟩ := u_known (C := RX6) (T := TX6) (N := 5) (n := 5) hts inX6 (hts (.instantiable RX6 5) (by decide +kernel))
  obtain ⟨c7, i7, k7⟩ := u_known (C := RX7) (T := TX7) (N := 6) (n := 6) hts inX7 (hts (.instantiable RX7 6) (by decide +kernel))
  obtain ⟨c8, i8, k8⟩ := u_known (C := RX8) (T := TX8) (N := 4) (n := 4) hts inX8 (hts (.instantiable RX8 4) (by decide +kernel))
  obtain ⟨c9, i9, k9⟩ := u_known (C := RX10) (T := TX10) (N := 13) (n := 13) hts inX10 (hts (.instantiable RX10 13) (by decide +kernel))
  obtain ⟨c10, i10, k10⟩ := u_known (C := RX11) (T := TX11) (N := 35) (n := 35) hts inX11 (hts (.instantiable RX11 35) (by decide +kernel))
  obtain ⟨a0, ka0, co0, p0, q0, r0⟩ := Cond.arrayClass_spec (hts (.arrayClass .byte) (by decide +kernel))
  obtain ⟨a1, ka1, co1, p1, q1, r1⟩ := Cond.arrayClass_spec (hts (.arrayClass .int) (by decide +kernel))
  obtain ⟨a5, ka5, co5, p5, q5, r5⟩ := Cond.arrayClass_spec (hts (.arrayClass .long) (by decide +kernel))
  obtain ⟨co2, a2, ka2, x2, -, q2, r2, p2⟩ := Cond.arrayOver_spec (hts (.arrayOver (.object RX5)) (by decide +kernel))
  obtain ⟨co3, a3, ka3, x3, -, q3, r3, p3⟩ := Cond.arrayOver_spec (hts (.arrayOver (.object RX8)) (by decide +kernel))
  obtain ⟨co4, a4, ka4, x4, -, q4, r4, p4⟩ := arrayOverA_spec (hts (.arrayOver (.array .int)) (by decide +kernel))
  obtain ⟨a6, v6, a7, v7, hW9⟩ := lw_W0 hts hgv
  refine ⟨((fun k => [c0, c1, c2, c3, c4, c5, c6, c7, c8, c9, c10].getD k c0, fun k => [i0, i1, i2, i3, i4, i5, i6, i7, i8, i9, i10].getD k i0), fun k => [a0, a1, a2, a3, a4, a5, a0, a0, a0, a0, a6, a7, a0, a0, a0, a0, a0, a0, a0, a0, v6, v7].getD k a0), hx, hb, hr, hml, hown, fun w h => hts w (wsL_law_in w h), hX, hbl, hlk, ⟨?_, ?_⟩, lw_E0 (hW9 _ rfl rfl rfl rfl) hts hgv, fun _ h => h, Nat.not_le.mpr hbl, va_Nc.of (flat_of_before _ hgv _ (by decide +kernel))⟩
  · intro k q hq
    match k, hq with
    | 0, hq => cases hq; exact k0
    | 1, hq => cases hq; exact k1
    | 2, hq => cases hq; exact k2
    | 3, hq => cases hq; exact k3
    | 4, hq => cases hq; exact k4
    | 5, hq => cases hq; exact k5
    | 6, hq => cases hq; exact k6
    | 7, hq => cases hq; exact k7
    | 8, hq => cases hq; exact k8
    | 9, hq => cases hq; exact k9
    | 10, hq => cases hq; exact k10
    | k + 11, hq => exact absurd hq (by simp [vwCl])
  · intro k q hq
    match k, hq with
    | 0, hq => cases hq; exact ⟨fun n z => ⟨fun k h => (by cases h), ka0, q0, co0, r0⟩, p0⟩
    | 1, hq => cases hq; exact ⟨fun n z => ⟨fun k h => (by cases h), ka1, q1, co1, r1⟩, p1⟩
    | 2, hq => cases hq; exact ⟨fun n z => ⟨fun k h => (by cases h), ka2, q2, co2, r2⟩, ka2, co2, q2, r2, x2, p2⟩
    | 3, hq => cases hq; exact ⟨fun n z => ⟨fun k h => (by cases h), ka3, q3, co3, r3⟩, ka3, co3, q3, r3, x3, p3⟩
    | 4, hq => cases hq; exact ⟨fun n z => ⟨fun k h => (by cases h), ka4, q4, co4, r4⟩, p4⟩
    | 5, hq => cases hq; exact ⟨fun n z => ⟨fun k h => (by cases h), ka5, q5, co5, r5⟩, p5⟩
    | k + 6, hq => exact absurd hq (by simp [he_ty])
