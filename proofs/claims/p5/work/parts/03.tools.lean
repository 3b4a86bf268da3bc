/-! tools: one shape for all contracts; the class ids of arrays are one table, the statics one predicate -/
abbrev he_G : Type := va_G × (Nat → ClassId)
abbrev he_ty (g : he_G) : List (ClassId × FieldType) := [(g.2 0, .byte), (g.2 1, .int), (g.2 2, .object "HiredEnemy$Pact"), (g.2 3, .object "HiredEnemy$Scene"), (g.2 4, .array .int), (g.2 5, .long)]
def he_tab (l : List Int32) (k : Nat) : Value := .int (l.getD k 0)
def he_untold : List Int32 := [0, 0, 0, 1000, 100, 3, 0, 100, 5, 5000, 20, 0, 20, 10, 5, 0, 0, 0, 1, 0, 0, 5, 1, 0]
def he_numbers : List Int32 := [2, 3, 3, 2, 3, 2, 1, 2]
def he_high : List Int32 := [99, 50, 0, 9999, 999, 9, 9999, 999, 9, 9999, 100, 0, 100, 50, 50, 9, 20, 0, 9, 0, 0, 99, 99, 0]
def he_pacthigh : List Int32 := [999, 999, 9, 99, 99, 36]
/-- a static array of ints, outside A -/
def he_Ta (C n : String) (N : Nat) (tb : List Int32) (A : Nat → Prop) (U : State) (H : Heap) : Prop := ∃ t : Nat, va_Z C n "[I" (.ref t) A U H ∧ va_T .int t N (he_tab tb) A U H
theorem he_Ta.moved {C n : String} {N : Nat} {tb : List Int32} {A : Nat → Prop} {u U : State} {H : Heap} (hvm : u.vm.Alike U.vm) (h : he_Ta C n N tb A u H) : he_Ta C n N tb A U H := by
  obtain ⟨t, h1, h2⟩ := h
  exact ⟨t, h1.moved hvm, h2.moved hvm⟩
theorem he_Ta.kept {C n : String} {N : Nat} {tb : List Int32} {A : Nat → Prop} {U : State} {H H1 : Heap} (h : he_Ta C n N tb A U H) (hq : ∀ a : Nat, a < H.size → ¬ A a → H1[a]? = H[a]?) : he_Ta C n N tb A U H1 := by
  obtain ⟨t, h1, h2⟩ := h
  exact ⟨t, h1.kept hq, h2.kept hq⟩
theorem he_Ta.narrow {C n : String} {N : Nat} {tb : List Int32} {A B : Nat → Prop} {U : State} {H : Heap} (h : he_Ta C n N tb A U H) (hAB : ∀ q, B q → A q) : he_Ta C n N tb B U H := by
  obtain ⟨t, h1, h2⟩ := h
  exact ⟨t, h1.narrow hAB, h2.narrow hAB⟩
/-- the private members that are reached from another class of the nest -/
def he_nest : List (String × Nat × MethodName) := [(RX10, 15, yX7_init), (RX6, 3, yX9_init), (RX10, 38, yX8_init), (RX8, 9, yX4_init), (RX8, 18, yX0_init), (RX8, 25, yX2_init), (RX8, 32, yX3_init), (RX10, 49, yX4_init), (RX10, 56, yX1_init), (RX10, 65, yX5_init), (RX5, 3, yX9_init), (RX0, 21, yX10_within), (RX6, 39, yX10_within), (RX5, 37, yX10_within), (RX7, 88, yX10_within)]
/-- the methods that the tables say are declared -/
def he_decl : List MethodName := [⟨RX9, "words", "()Ljava/lang/String;"⟩, ⟨RX9, "mostParts", "()I"⟩, ⟨RX9, "isFull", "(I)Z"⟩, ⟨RX9, "numbers", "(I)I"⟩, ⟨RX9, "low", "(II)I"⟩, ⟨RX9, "high", "(II)I"⟩, ⟨RX9, "store", "(I[I)V"⟩, ⟨"java/lang/Exception", "<init>", "(Ljava/lang/String;)V"⟩, ⟨"java/lang/RuntimeException", "<init>", "(Ljava/lang/String;)V"⟩, ⟨"java/lang/Throwable", "<init>", "(Ljava/lang/String;)V"⟩]
def he_cast : List (String × String) := [("java/lang/IllegalArgumentException", "java/lang/IllegalArgumentException"), ("java/lang/IndexOutOfBoundsException", "java/lang/IndexOutOfBoundsException"), ("java/util/NoSuchElementException", "java/util/NoSuchElementException")]
/-- a text of words: where it lies, and its bytes -/
def he_Sr (own : String) (k : Nat) (tx : String) (byt : List Int32) (a v : Nat) (A : Nat → Prop) (U : State) (H : Heap) : Prop := vk_R own k tx a U ∧ va_O RJ0 a A U H ∧ va_OF RJ0 "coder" "B" (.int 0) a A U H ∧ va_OF RJ0 "value" "[B" (.ref v) a A U H ∧ va_T .byte v byt.length (he_tab byt) A U H
theorem he_Sr.moved {own tx : String} {k a v : Nat} {byt : List Int32} {A : Nat → Prop} {u U : State} {H : Heap} (hvm : u.WarmedH U.vm) (h : he_Sr own k tx byt a v A u H) : he_Sr own k tx byt a v A U H := ⟨h.1.warm hvm, va_O.moved hvm.alike h.2.1, va_OF.moved hvm.alike h.2.2.1, va_OF.moved hvm.alike h.2.2.2.1, va_T.moved hvm.alike h.2.2.2.2⟩
theorem he_Sr.same {own tx : String} {k a v : Nat} {byt : List Int32} {A : Nat → Prop} {u U : State} {H : Heap} (hvm : U.vm = u.vm) (h : he_Sr own k tx byt a v A u H) : he_Sr own k tx byt a v A U H := by
  have ha : u.vm.Alike U.vm := by rw [hvm]; exact Vm.Alike.refl u.vm
  exact ⟨h.1.same hvm, va_O.moved ha h.2.1, va_OF.moved ha h.2.2.1, va_OF.moved ha h.2.2.2.1, va_T.moved ha h.2.2.2.2⟩
theorem he_Sr.kept {own tx : String} {k a v : Nat} {byt : List Int32} {A : Nat → Prop} {U : State} {H H1 : Heap} (h : he_Sr own k tx byt a v A U H) (hq : ∀ a : Nat, a < H.size → ¬ A a → H1[a]? = H[a]?) : he_Sr own k tx byt a v A U H1 := ⟨h.1, h.2.1.kept hq, h.2.2.1.kept hq, h.2.2.2.1.kept hq, h.2.2.2.2.kept hq⟩
theorem he_Sr.narrow {own tx : String} {k a v : Nat} {byt : List Int32} {A B : Nat → Prop} {U : State} {H : Heap} (h : he_Sr own k tx byt a v A U H) (hAB : ∀ q, B q → A q) : he_Sr own k tx byt a v B U H := ⟨h.1, h.2.1.narrow hAB, h.2.2.1.narrow hAB, h.2.2.2.1.narrow hAB, h.2.2.2.2.narrow hAB⟩
def he_w6 : List Int32 := [119, 97, 108, 108, 32, 100, 117, 107, 101, 32, 101, 110, 101, 109, 121, 32, 116, 111, 119, 110, 32, 102, 101, 97, 114, 32, 110, 101, 97, 114, 32, 109, 97, 115, 111, 110, 32, 99, 111, 115, 116]
def he_w5 : List Int32 := [112, 97, 121, 32, 119, 105, 110, 116, 101, 114, 32, 110, 101, 97, 114, 32, 99, 111, 114, 107, 115, 32, 98, 111, 110, 117, 115, 32, 116, 105, 108, 108, 32, 98, 114, 101, 97, 99, 104]
def he_W (g : he_G) (A : Nat → Prop) (U : State) (H : Heap) : Prop := (va_Z RJ0 "COMPACT_STRINGS" "Z" (.int 1) A U H ∧ va_Zq RJ3 "SIOOBE_FORMATTER" "Ljava/util/function/BiFunction;" A U H) ∧ he_Sr RX6 34 "wall duke enemy town fear near mason cost" he_w6 (g.2 10) (g.2 20) A U H ∧ he_Sr RX5 32 "pay winter near corks bonus till breach" he_w5 (g.2 11) (g.2 21) A U H
/-- what lies outside: static arrays, what a throw needs, the texts, the nest's links -/
def he_E (g : he_G) (A : Nat → Prop) (U : State) (H : Heap) : Prop := he_Ta RX6 "UNTOLD" 24 he_untold A U H ∧ he_Ta RX6 "NUMBERS" 8 he_numbers A U H ∧ he_Ta RX6 "HIGH" 24 he_high A U H ∧ he_Ta RX5 "HIGH" 6 he_pacthigh A U H ∧ vx_Zq Bundle.tN "UNASSIGNED_STACK" Bundle.steD A U H ∧ vx_Zq Bundle.tN "SUPPRESSED_SENTINEL" Bundle.listD A U H ∧ (∃ a : Nat, vk_R RX10 253 "no such argument" a U) ∧ (∃ a : Nat, vk_R RX10 260 "no such wall" a U) ∧ (∃ a : Nat, vk_R RX10 265 "no such contract" a U) ∧ (∀ q ∈ he_nest, va_Nw (.methodLinkNest q.1 q.2.1 q.2.2 "HiredEnemy") U) ∧ (∀ x ∈ he_decl, va_Nw (.declares x) U) ∧ va_AO RX5 U ∧ va_AO RX8 U ∧ va_AOA .int U ∧ (∀ q ∈ he_cast, va_Nw (.castable q.1 q.2) U) ∧ va_Nc "java/lang/IllegalArgumentException" "java/util/NoSuchElementException" U ∧ he_W g A U H
theorem he_aoa {u U : State} (hvm : u.vm.Alike U.vm) (h : va_AOA .int u) : va_AOA .int U := over_moved (a := #[]) (a' := #[]) hvm h
theorem he_E.moved {g : he_G} {A : Nat → Prop} {u U : State} {H : Heap} (hvm : u.WarmedH U.vm) (h : he_E g A u H) : he_E g A U H := by
  obtain ⟨h1, h2, h3, h4, h5, h6, ⟨a7, h7⟩, ⟨a8, h8⟩, ⟨a9, h9⟩, h10, h11, h12, h13, h14, h15, h16, hw1, hw2, hw3⟩ := h
  exact ⟨h1.moved hvm.alike, h2.moved hvm.alike, h3.moved hvm.alike, h4.moved hvm.alike, h5.moved hvm.alike, h6.moved hvm.alike, ⟨a7, h7.warm hvm⟩, ⟨a8, h8.warm hvm⟩, ⟨a9, h9.warm hvm⟩, fun q hq => (h10 q hq).warmM hvm, fun q hq => (h11 q hq).warmD hvm, h12.moved hvm.alike, h13.moved hvm.alike, he_aoa hvm.alike h14, fun q hq => (h15 q hq).warmC hvm, h16.moved hvm.alike, ⟨hw1.1.moved hvm.alike, hw1.2.moved hvm.alike⟩, hw2.moved hvm, hw3.moved hvm⟩
theorem he_E.same {g : he_G} {A : Nat → Prop} {u U : State} {H : Heap} (hvm : U.vm = u.vm) (h : he_E g A u H) : he_E g A U H := by
  obtain ⟨h1, h2, h3, h4, h5, h6, ⟨a7, h7⟩, ⟨a8, h8⟩, ⟨a9, h9⟩, h10, h11, h12, h13, h14, h15, h16, hw1, hw2, hw3⟩ := h
  have ha : u.vm.Alike U.vm := by rw [hvm]; exact Vm.Alike.refl u.vm
  exact ⟨h1.moved ha, h2.moved ha, h3.moved ha, h4.moved ha, h5.moved ha, h6.moved ha, ⟨a7, h7.same hvm⟩, ⟨a8, h8.same hvm⟩, ⟨a9, h9.same hvm⟩, fun q hq => (h10 q hq).same rfl hvm.symm, fun q hq => (h11 q hq).same rfl hvm.symm, h12.moved ha, h13.moved ha, he_aoa ha h14, fun q hq => (h15 q hq).same rfl hvm.symm, h16.moved ha, ⟨hw1.1.moved ha, hw1.2.moved ha⟩, hw2.same hvm, hw3.same hvm⟩
theorem he_E.kept {g : he_G} {A : Nat → Prop} {U : State} {H H1 : Heap} (h : he_E g A U H) (hq : ∀ a : Nat, a < H.size → ¬ A a → H1[a]? = H[a]?) : he_E g A U H1 := by
  obtain ⟨h1, h2, h3, h4, h5, h6, h7, h8, h9, h10, h11, h12, h13, h14, h15, h16, hw1, hw2, hw3⟩ := h
  exact ⟨h1.kept hq, h2.kept hq, h3.kept hq, h4.kept hq, h5.kept hq, h6.kept hq, h7, h8, h9, h10, h11, h12, h13, h14, h15, h16, ⟨hw1.1.kept hq, hw1.2.kept hq⟩, hw2.kept hq, hw3.kept hq⟩
theorem he_E.narrow {g : he_G} {A B : Nat → Prop} {U : State} {H : Heap} (h : he_E g A U H) (hAB : ∀ q, B q → A q) : he_E g B U H := by
  obtain ⟨h1, h2, h3, h4, h5, h6, h7, h8, h9, h10, h11, h12, h13, h14, h15, h16, hw1, hw2, hw3⟩ := h
  exact ⟨h1.narrow hAB, h2.narrow hAB, h3.narrow hAB, h4.narrow hAB, h5.narrow hAB, h6.narrow hAB, h7, h8, h9, h10, h11, h12, h13, h14, h15, h16, ⟨hw1.1.narrow hAB, hw1.2.narrow hAB⟩, hw2.narrow hAB, hw3.narrow hAB⟩
theorem he_E.nest {g : he_G} {A : Nat → Prop} {U : State} {H : Heap} (h : he_E g A U H) : ∀ q ∈ he_nest, va_Nw (.methodLinkNest q.1 q.2.1 q.2.2 "HiredEnemy") U := h.2.2.2.2.2.2.2.2.2.1
theorem he_E.decl {g : he_G} {A : Nat → Prop} {U : State} {H : Heap} (h : he_E g A U H) : ∀ x ∈ he_decl, va_Nw (.declares x) U := h.2.2.2.2.2.2.2.2.2.2.1
theorem he_E.over {g : he_G} {A : Nat → Prop} {U : State} {H : Heap} (h : he_E g A U H) : va_AO RX5 U ∧ va_AO RX8 U ∧ va_AOA .int U := ⟨h.2.2.2.2.2.2.2.2.2.2.2.1, h.2.2.2.2.2.2.2.2.2.2.2.2.1, h.2.2.2.2.2.2.2.2.2.2.2.2.2.1⟩
theorem he_E.cast {g : he_G} {A : Nat → Prop} {U : State} {H : Heap} (h : he_E g A U H) : ∀ q ∈ he_cast, va_Nw (.castable q.1 q.2) U := h.2.2.2.2.2.2.2.2.2.2.2.2.2.2.1
theorem he_E.nc {g : he_G} {A : Nat → Prop} {U : State} {H : Heap} (h : he_E g A U H) : va_Nc "java/lang/IllegalArgumentException" "java/util/NoSuchElementException" U := h.2.2.2.2.2.2.2.2.2.2.2.2.2.2.2.1
theorem he_E.words {g : he_G} {A : Nat → Prop} {U : State} {H : Heap} (h : he_E g A U H) : he_W g A U H := h.2.2.2.2.2.2.2.2.2.2.2.2.2.2.2.2
/-- a contract's start: the world ws, heap of size sz -/
def he_pre (g : he_G) (ws : va_W) (sz : Nat) (U : State) : Prop := U.heap.size = sz ∧ va_P g.1 vwCl ws U.heap ∧ va_K g.1 vwCl (he_ty g) U ∧ va_D (fun _ => True) ws ∧ he_E g (va_A ws sz) U U.heap
/-- its end: the world ws1 within A -/
def he_post (g : he_G) (A : Nat → Prop) (ws1 : va_W) (t : State) : Prop := va_P g.1 vwCl ws1 t.heap ∧ va_D A ws1
abbrev he_room (fr lo mc ms : Nat) : Room := { frames := fr, cells := mc, slots := ms, locals := lo }
abbrev he_I {S : Type} (l : Launch) (y : MethodName) (wl : List Cond) (fr lo mc ms : Nat) (g : he_G) (av : List Value) (ws : va_W) (post : Int32 → S → Prop) (w1 : S → va_W) : Prop := ∀ sz : Nat, Met l y wl (he_room fr lo mc ms) (va_Pc av (he_pre g ws sz)) (va_Qi post (fun u t => he_post g (va_A ws sz) (w1 u) t) (va_A ws sz)) mc ms (va_A ws sz)
abbrev he_J {S : Type} (l : Launch) (y : MethodName) (wl : List Cond) (fr lo mc ms : Nat) (g : he_G) (av : List Value) (ws : va_W) (post : Int64 → S → Prop) (w1 : S → va_W) : Prop := ∀ sz : Nat, Met l y wl (he_room fr lo mc ms) (va_Pc av (he_pre g ws sz)) (va_Ql post (fun u t => he_post g (va_A ws sz) (w1 u) t) (va_A ws sz)) mc ms (va_A ws sz)
abbrev he_V {S : Type} (l : Launch) (y : MethodName) (wl : List Cond) (fr lo mc ms : Nat) (g : he_G) (av : List Value) (ws : va_W) (post : S → Prop) (w1 : S → va_W) : Prop := ∀ sz : Nat, Met l y wl (he_room fr lo mc ms) (va_Pc av (he_pre g ws sz)) (va_Qv post (fun u t => he_post g (va_A ws sz) (w1 u) t) (va_A ws sz)) mc ms (va_A ws sz)
abbrev he_O {S : Type} (l : Launch) (y : MethodName) (wl : List Cond) (fr lo mc ms : Nat) (g : he_G) (av : List Value) (ws : va_W) (post : Option Nat → S → Prop) (w1 : S → va_W) : Prop := ∀ sz : Nat, Met l y wl (he_room fr lo mc ms) (va_Pc av (he_pre g ws sz)) (va_Qq post (fun u t => he_post g (va_A ws sz) (w1 u) t) (va_A ws sz)) mc ms (va_A ws sz)
/-- what is known where a method has thrown En: the world wx -/
def he_XC (g : he_G) (A : Nat → Prop) (En : String) (wx : va_W) : String → State → State → Prop := vx_X (fun _ : Unit => True) (fun E _ t => E = En ∧ he_post g A wx t) A
abbrev he_QTv (A : Nat → Prop) : Array Value → State → Outcome → State → Prop := va_Qv (fun _ : Unit => False) (fun _ _ => True) A
abbrev he_QTi (A : Nat → Prop) : Array Value → State → Outcome → State → Prop := va_Qi (fun _ (_ : Unit) => False) (fun _ _ => True) A
abbrev he_QTj (A : Nat → Prop) : Array Value → State → Outcome → State → Prop := va_Ql (fun _ (_ : Unit) => False) (fun _ _ => True) A
abbrev he_T (QT : (Nat → Prop) → Array Value → State → Outcome → State → Prop) (l : Launch) (y : MethodName) (wl : List Cond) (fr lo mc ms : Nat) (g : he_G) (av : List Value) (ws : va_W) (En : String) (wx : va_W) : Prop := ∀ sz : Nat, vx_Met l y wl (he_room fr lo mc ms) (va_Pc av (he_pre g ws sz)) (QT (va_A ws sz)) (he_XC g (va_A ws sz) En wx) mc ms (va_A ws sz)
theorem he_fb {g : he_G} {ws : va_W} {sz : Nat} {av : List Value} : FrameBlind (va_Pc av (he_pre g ws sz)) := by
  intro a U f mk q
  obtain ⟨q0, q1, qP, qK, qD, qE⟩ := q
  exact ⟨q0, q1, qP, va_K.moved (u := U) (U := U.calling f mk a) (Vm.Alike.refl U.vm) qK, qD, qE.same rfl⟩
theorem he_same {U : State} {cA cB : ClassId} {nm : String} (h1 : U.vm.findClass nm = some cA) (h2 : U.vm.findClass nm = some cB) : cA = cB := Option.some.inj (h1.symm.trans h2)
theorem he_in {i : Int32} {k n : Nat} (hi : i = nI k) (hk : k < n) (hn : n < 2147483648) : vp_in i n ∧ i.toNatClampNeg = k := by
  subst hi
  exact ⟨vp_in_nI hk hn, nI_clamp (Nat.lt_trans hk hn)⟩
theorem he_cle {x y : Int32} {a b : Nat} (hx : x = nI a) (hy : y = nI b) (ha : a < 2147483648) (hb : b < 2147483648) : x ≤ y ↔ a ≤ b := by
  subst hx hy
  exact nI_leI ha hb
theorem he_clt {x y : Int32} {a b : Nat} (hx : x = nI a) (hy : y = nI b) (ha : a < 2147483648) (hb : b < 2147483648) : x < y ↔ a < b := by
  subst hx hy
  exact nI_ltI ha hb
theorem he_ceq {x y : Int32} {a b : Nat} (hx : x = nI a) (hy : y = nI b) (ha : a < 2147483648) (hb : b < 2147483648) : x = y ↔ a = b := by
  subst hx hy
  exact nI_eq ha hb
section HEA
variable {p : Program} {l : Launch} {e : Env} {R : Room} {s : State} {m : MethodId} {args : Array Value} {below : List Frame} {meth : Method} {c : Code} {H : Heap} {locs : List Loc} {cells slots : Nat} {Q : State → Prop} {g : he_G} {A : Nat → Prop} {ws wc wr : va_W} {pc : Nat} {ls : Array Slot} {rest st0 : List Value} {cc : ByteArray}
theorem he_preX (hK : va_K g.1 vwCl (he_ty g) s) (hP : va_P g.1 vwCl ws H) (hD : va_D A ws) (hS : va_S A s.heap H locs) (hA : ∀ q, s.heap.size ≤ q → A q) (hE : he_E g A s s.heap) (isC : List Nat) (hC : isC.map (fun i => ws[i]?) = wc.map some) (hnd : va_nd isC = true) (U : State) (hU : U.heap = H) (hW : s.WarmedH U.vm) : he_pre g wc H.size U := by
  have hF := va_free hD hS hA isC hC
  have e1 : isC.filterMap (fun i => ws[i]?) = wc := by
    have h := congrArg (fun l => l.filterMap id) hC
    simpa [List.filterMap_map, Function.comp_def] using h
  refine ⟨by rw [hU], by rw [hU]; exact hP.sub isC e1, va_K.moved hW.alike hK, (hD.sub isC hnd hC).weaken (fun _ _ _ _ => trivial), ?_⟩
  rw [hU]
  exact he_E.moved hW ((hE.kept (fun a h1 h2 => hS.2.1 a h1 h2)).narrow hF)
theorem he_preS (hK : va_K g.1 vwCl (he_ty g) s) (hP : va_P g.1 vwCl ws H) (hD : va_D A ws) (hS : va_S A s.heap H locs) (hA : ∀ q, s.heap.size ≤ q → A q) (hE : he_E g A s s.heap) (isC : List Nat) (hC : isC.map (fun i => ws[i]?) = wc.map some) (hnd : va_nd isC = true) {av : List Value} : PreS s H (va_Pc av (he_pre g wc H.size)) av := ⟨he_fb, fun U hU hW => ⟨rfl, he_preX hK hP hD hS hA hE isC hC hnd U hU hW⟩⟩
theorem he_preV (hK : va_K g.1 vwCl (he_ty g) s) (hP : va_P g.1 vwCl ws H) (hD : va_D A ws) (hS : va_S A s.heap H locs) (hA : ∀ q, s.heap.size ≤ q → A q) (hE : he_E g A s s.heap) (isC : List Nat) (hC : isC.map (fun i => ws[i]?) = wc.map some) (hnd : va_nd isC = true) (q0 : Nat) {b ci N : Nat} {C : String} {T : u_T} {fs : List Value} (hr : ws[q0]? = some (b, .inr (ci, fs))) (hc : vwCl[ci]? = some (C, T, N)) {av : List Value} : PreV s H C b (va_Pc (.ref b :: av) (he_pre g wc H.size)) av := ⟨he_fb, va_recv (q := (C, T, N)) hK hP hc hr, fun U hU hW => ⟨rfl, he_preX hK hP hD hS hA hE isC hC hnd U hU hW⟩⟩
theorem he_ci {S : Type} {post : Int32 → S → Prop} {w1 : S → va_W} {a : Array Value} {mc ms : Nat} (hr : va_Run p l e R s m args below meth c H locs cells slots mc ms (F0 m pc ls st0) rest (va_Qi post (fun u t => he_post g (va_A wc H.size) (w1 u) t) (va_A wc H.size) a) (va_A wc H.size)) (hP : va_P g.1 vwCl ws H) (hD : va_D A ws) (hS : va_S A s.heap H locs) (hA : ∀ q, s.heap.size ≤ q → A q) (isC isR : List Nat) (hC : isC.map (fun i => ws[i]?) = wc.map some) (hR : isR.map (fun i => ws[i]?) = wr.map some) (hn : va_nd isR = true) (hdis : ∀ i ∈ isR, i ∉ isC)
    (kk : ∀ (r : Int32) (u : S) (H1 : Heap) (locs1 : List Loc), post r u → va_P g.1 vwCl (wr ++ w1 u) H1 → va_D A (wr ++ w1 u) → va_S A s.heap H1 locs1 → W p l e R s m args below meth c H1 locs1 (cells + mc) (slots + ms) Q (F0 m (pc + 3) ls (.int r :: rest))) : W p l e R s m args below meth c H locs cells slots Q (F0 m pc ls st0) := by
  have hF := va_free hD hS hA isC hC
  refine va_calli hr hS (fun q _ h => hF q h) hF (fun r u t H1 locs1 ht hvm hw hB hz1 hk1 hS1 => ?_)
  obtain ⟨hP1, hD1⟩ := hB
  rw [ht] at hP1
  obtain ⟨hP2, hD2⟩ := va_join hP hD isC isR hC hR hn hdis hk1 hF hP1 hD1
  exact kk r u H1 locs1 hw hP2 hD2 hS1
theorem he_cj {S : Type} {post : Int64 → S → Prop} {w1 : S → va_W} {a : Array Value} {mc ms : Nat} (hr : va_Run p l e R s m args below meth c H locs cells slots mc ms (F0 m pc ls st0) rest (va_Ql post (fun u t => he_post g (va_A wc H.size) (w1 u) t) (va_A wc H.size) a) (va_A wc H.size)) (hP : va_P g.1 vwCl ws H) (hD : va_D A ws) (hS : va_S A s.heap H locs) (hA : ∀ q, s.heap.size ≤ q → A q) (isC isR : List Nat) (hC : isC.map (fun i => ws[i]?) = wc.map some) (hR : isR.map (fun i => ws[i]?) = wr.map some) (hn : va_nd isR = true) (hdis : ∀ i ∈ isR, i ∉ isC)
    (kk : ∀ (r : Int64) (u : S) (H1 : Heap) (locs1 : List Loc), post r u → va_P g.1 vwCl (wr ++ w1 u) H1 → va_D A (wr ++ w1 u) → va_S A s.heap H1 locs1 → W p l e R s m args below meth c H1 locs1 (cells + mc) (slots + ms) Q (F0 m (pc + 3) ls (.long r :: rest))) : W p l e R s m args below meth c H locs cells slots Q (F0 m pc ls st0) := by
  have hF := va_free hD hS hA isC hC
  refine va_calll hr hS (fun q _ h => hF q h) hF (fun r u t H1 locs1 ht hvm hw hB hz1 hk1 hS1 => ?_)
  obtain ⟨hP1, hD1⟩ := hB
  rw [ht] at hP1
  obtain ⟨hP2, hD2⟩ := va_join hP hD isC isR hC hR hn hdis hk1 hF hP1 hD1
  exact kk r u H1 locs1 hw hP2 hD2 hS1
theorem he_cv {S : Type} {post : S → Prop} {w1 : S → va_W} {a : Array Value} {mc ms : Nat} (hr : va_Run p l e R s m args below meth c H locs cells slots mc ms (F0 m pc ls st0) rest (va_Qv post (fun u t => he_post g (va_A wc H.size) (w1 u) t) (va_A wc H.size) a) (va_A wc H.size)) (hP : va_P g.1 vwCl ws H) (hD : va_D A ws) (hS : va_S A s.heap H locs) (hA : ∀ q, s.heap.size ≤ q → A q) (isC isR : List Nat) (hC : isC.map (fun i => ws[i]?) = wc.map some) (hR : isR.map (fun i => ws[i]?) = wr.map some) (hn : va_nd isR = true) (hdis : ∀ i ∈ isR, i ∉ isC)
    (kk : ∀ (u : S) (H1 : Heap) (locs1 : List Loc), post u → va_P g.1 vwCl (wr ++ w1 u) H1 → va_D A (wr ++ w1 u) → va_S A s.heap H1 locs1 → W p l e R s m args below meth c H1 locs1 (cells + mc) (slots + ms) Q (F0 m (pc + 3) ls rest)) : W p l e R s m args below meth c H locs cells slots Q (F0 m pc ls st0) := by
  have hF := va_free hD hS hA isC hC
  refine va_callv hr hS (fun q _ h => hF q h) hF (fun u t H1 locs1 ht hvm hw hB hz1 hk1 hS1 => ?_)
  obtain ⟨hP1, hD1⟩ := hB
  rw [ht] at hP1
  obtain ⟨hP2, hD2⟩ := va_join hP hD isC isR hC hR hn hdis hk1 hF hP1 hD1
  exact kk u H1 locs1 hw hP2 hD2 hS1
theorem he_cq {S : Type} {post : Option Nat → S → Prop} {w1 : S → va_W} {a : Array Value} {mc ms : Nat} (hr : va_Run p l e R s m args below meth c H locs cells slots mc ms (F0 m pc ls st0) rest (va_Qq post (fun u t => he_post g (va_A wc H.size) (w1 u) t) (va_A wc H.size) a) (va_A wc H.size)) (hP : va_P g.1 vwCl ws H) (hD : va_D A ws) (hS : va_S A s.heap H locs) (hA : ∀ q, s.heap.size ≤ q → A q) (isC isR : List Nat) (hC : isC.map (fun i => ws[i]?) = wc.map some) (hR : isR.map (fun i => ws[i]?) = wr.map some) (hn : va_nd isR = true) (hdis : ∀ i ∈ isR, i ∉ isC)
    (kk : ∀ (r : Option Nat) (u : S) (H1 : Heap) (locs1 : List Loc), post r u → va_P g.1 vwCl (wr ++ w1 u) H1 → va_D A (wr ++ w1 u) → va_S A s.heap H1 locs1 → W p l e R s m args below meth c H1 locs1 (cells + mc) (slots + ms) Q (F0 m (pc + 3) ls (va_rf r :: rest))) : W p l e R s m args below meth c H locs cells slots Q (F0 m pc ls st0) := by
  have hF := va_free hD hS hA isC hC
  refine va_callq hr hS (fun q _ h => hF q h) hF (fun r u t H1 locs1 ht hvm hw hB hz1 hk1 hS1 => ?_)
  obtain ⟨hP1, hD1⟩ := hB
  rw [ht] at hP1
  obtain ⟨hP2, hD2⟩ := va_join hP hD isC isR hC hR hn hdis hk1 hF hP1 hD1
  exact kk r u H1 locs1 hw hP2 hD2 hS1
theorem he_ri {S : Type} {post : Int32 → S → Prop} {w1 : S → va_W} {mc ms : Nat} {v : Int32} {ws1 : va_W} (hQ : Q = MQ below (va_Qi post (fun u t => he_post g A (w1 u) t) A) args s mc ms A) (hx : p.tables.exec = Jvm.exec) (hb : c.code = cc) (hr : meth.sig.returnType = some .int) (hlk : meth.locks = false) (hP : va_P g.1 vwCl ws1 H) (hD : va_D A ws1) (hS : va_S A s.heap H locs) (hdg : decode cc pc = .ok (.ireturn, 1)) (hc : cells ≤ mc) (hs : slots ≤ ms) (u : S) (hw : w1 u = ws1) (hp : post v u) : W p l e R s m args below meth c H locs cells slots Q (F0 m pc ls [.int v]) := by
  subst hQ
  refine W.widen (k := mc) (n := ms) hc hs ?_
  exact W.iret (v := v) hx hb hr (fun t ht hW => ⟨⟨v, u, rfl, hp, by rw [hw, ht]; exact hP, by rw [hw]; exact hD⟩, hS.F ht⟩) hS.2.2 hdg hlk
theorem he_rz {S : Type} {post : Int32 → S → Prop} {w1 : S → va_W} {mc ms : Nat} {v : Int32} {ws1 : va_W} (hQ : Q = MQ below (va_Qi post (fun u t => he_post g A (w1 u) t) A) args s mc ms A) (hx : p.tables.exec = Jvm.exec) (hb : c.code = cc) (hr : meth.sig.returnType = some .boolean) (hlk : meth.locks = false) (hP : va_P g.1 vwCl ws1 H) (hD : va_D A ws1) (hS : va_S A s.heap H locs) (hdg : decode cc pc = .ok (.ireturn, 1)) (hc : cells ≤ mc) (hs : slots ≤ ms) (hn : narrow .boolean (.int v) = .int v) (u : S) (hw : w1 u = ws1) (hp : post v u) : W p l e R s m args below meth c H locs cells slots Q (F0 m pc ls [.int v]) := by
  subst hQ
  refine W.widen (k := mc) (n := ms) hc hs ?_
  exact W.zret (v := v) hx hb hr hn (fun t ht hW => ⟨⟨v, u, rfl, hp, by rw [hw, ht]; exact hP, by rw [hw]; exact hD⟩, hS.F ht⟩) hS.2.2 hdg hlk
theorem he_rj {S : Type} {post : Int64 → S → Prop} {w1 : S → va_W} {mc ms : Nat} {v : Int64} {ws1 : va_W} (hQ : Q = MQ below (va_Ql post (fun u t => he_post g A (w1 u) t) A) args s mc ms A) (hx : p.tables.exec = Jvm.exec) (hb : c.code = cc) (hr : meth.sig.returnType = some .long) (hlk : meth.locks = false) (hP : va_P g.1 vwCl ws1 H) (hD : va_D A ws1) (hS : va_S A s.heap H locs) (hdg : decode cc pc = .ok (.lreturn, 1)) (hc : cells ≤ mc) (hs : slots ≤ ms) (u : S) (hw : w1 u = ws1) (hp : post v u) : W p l e R s m args below meth c H locs cells slots Q (F0 m pc ls [.long v]) := by
  subst hQ
  refine W.widen (k := mc) (n := ms) hc hs ?_
  exact W.lret (v := v) hx hb hr (fun t ht hW => ⟨⟨v, u, rfl, hp, by rw [hw, ht]; exact hP, by rw [hw]; exact hD⟩, hS.F ht⟩) hS.2.2 hdg hlk
theorem he_rv {S : Type} {post : S → Prop} {w1 : S → va_W} {mc ms : Nat} {ws1 : va_W} (hQ : Q = MQ below (va_Qv post (fun u t => he_post g A (w1 u) t) A) args s mc ms A) (hx : p.tables.exec = Jvm.exec) (hb : c.code = cc) (hr : meth.sig.returnType = none) (hlk : meth.locks = false) (hP : va_P g.1 vwCl ws1 H) (hD : va_D A ws1) (hS : va_S A s.heap H locs) (hdg : decode cc pc = .ok (.return_, 1)) (hc : cells ≤ mc) (hs : slots ≤ ms) (u : S) (hw : w1 u = ws1) (hp : post u) : W p l e R s m args below meth c H locs cells slots Q (F0 m pc ls []) := by
  subst hQ
  refine W.widen (k := mc) (n := ms) hc hs ?_
  exact W.vret hx hb hr (fun t ht hW => ⟨⟨u, rfl, hp, by rw [hw, ht]; exact hP, by rw [hw]; exact hD⟩, hS.F ht⟩) hS.2.2 hdg hlk
theorem he_ra {S : Type} {post : Option Nat → S → Prop} {w1 : S → va_W} {mc ms : Nat} {v : Value} {rt : FieldType} {ws1 : va_W} (hQ : Q = MQ below (va_Qq post (fun u t => he_post g A (w1 u) t) A) args s mc ms A) (hx : p.tables.exec = Jvm.exec) (hb : c.code = cc) (hr : meth.sig.returnType = some rt) (hlk : meth.locks = false) (hP : va_P g.1 vwCl ws1 H) (hD : va_D A ws1) (hS : va_S A s.heap H locs) (hdg : decode cc pc = .ok (.areturn, 1)) (hc : cells ≤ mc) (hs : slots ≤ ms) (hrt : (∃ n, rt = .object n) ∨ ∃ t, rt = .array t) (o : Option Nat) (ho : va_rf o = v) (u : S) (hw : w1 u = ws1) (hp : post o u) : W p l e R s m args below meth c H locs cells slots Q (F0 m pc ls [v]) := by
  subst hQ ho
  refine W.widen (k := mc) (n := ms) hc hs ?_
  exact W.aret (v := va_rf o) hx hb hr hrt (va_rf_or o) (fun t ht hW => ⟨⟨o, u, rfl, hp, by rw [hw, ht]; exact hP, by rw [hw]; exact hD⟩, hS.F ht⟩) hS.2.2 hdg hlk
theorem he_copy (hexec : p.tables.exec = Jvm.exec) (hb : c.code = cc) (hml : c.maxLocals = ls.size) {own : String} {index : Nat} (hown : s.vm.findClass own = some m.cls) (hlink : (Cond.methodLink own index arraycopyName).before args s = true) (hnat : (Cond.native arraycopyName).before args s = true) (hstat : (Cond.static arraycopyName).before args s = true) (hini : (Cond.initialized "java/lang/System").before args s = true)
    (hK : va_K g.1 vwCl (he_ty g) s) (hP : va_P g.1 vwCl ws H) (hD : va_D A ws) (hS : va_S A s.heap H locs) (q0 q1 : Nat) {a0 a n0 n1 : Nat} {f0 f1 : Nat → Int32} (ha0 : ws[q0]? = some (a0, .inl (g.2 1, n0, .inl f0))) (ha1 : ws[q1]? = some (a, .inl (g.2 1, n1, .inl f1)))
    {i j k : Int32} (sp dp n : Nat) (hi : i = nI sp) (hj : j = nI dp) (hk : k = nI n) (h1 : sp + n ≤ n0) (h2 : dp + n ≤ n1) (hn0 : n0 < 2147483648) (hn1 : n1 < 2147483648)
    (hframes : 1 ≤ R.frames) (hlocals : (rest.map fun v => v.category).sum + (nativeFrameWords "java/lang/System" "arraycopy" 5 + 11) ≤ R.locals) (hdg : decode cc pc = .ok (.invokestatic index, 3))
    (kk : ∀ (H1 : Heap) (locs1 : List Loc), va_P g.1 vwCl (ws.set q1 (a, .inl (g.2 1, n1, .inl (va_cpy f0 f1 sp dp n)))) H1 → va_D A (ws.set q1 (a, .inl (g.2 1, n1, .inl (va_cpy f0 f1 sp dp n)))) → va_S A s.heap H1 locs1 → W p l e R s m args below meth c H1 locs1 cells slots Q (F0 m (pc + 3) ls rest)) : W p l e R s m args below meth c H locs cells slots Q (F0 m pc ls (.int k :: .int j :: .ref a :: .int i :: .ref a0 :: rest)) := by
  subst hi hj hk
  have e1 : (nI sp).toNatClampNeg = sp := nI_clamp (by omega)
  have e2 : (nI dp).toNatClampNeg = dp := nI_clamp (by omega)
  have e3 : (nI n).toNatClampNeg = n := nI_clamp (by omega)
  refine va_copyi hexec hb hml hown hlink hnat hstat hini hK hP hD hS q0 q1 1 1 ha0 ha1 rfl rfl rfl (nI_pos (by omega)) (nI_pos (by omega)) (nI_pos (by omega)) (by rw [e1, e3]; exact h1) (by rw [e2, e3]; exact h2) (fun _ _ => rfl) hframes hlocals hdg ?_
  rw [e1, e2, e3]
  exact kk
theorem he_top {x : Int32} (v : Int32) (h : x = v) (k : W p l e R s m args below meth c H locs cells slots Q (F0 m pc ls (.int v :: rest))) : W p l e R s m args below meth c H locs cells slots Q (F0 m pc ls (.int x :: rest)) := by subst h; exact k
theorem he_topl {x : Int64} (v : Int64) (h : x = v) (k : W p l e R s m args below meth c H locs cells slots Q (F0 m pc ls (.long v :: rest))) : W p l e R s m args below meth c H locs cells slots Q (F0 m pc ls (.long x :: rest)) := by subst h; exact k
theorem he_iald (hexec : p.tables.exec = Jvm.exec) (hb : c.code = cc) (hK : va_K g.1 vwCl (he_ty g) s) (hP : va_P g.1 vwCl ws H) (q0 : Nat) {a n : Nat} {f : Nat → Int32} (ha : ws[q0]? = some (a, .inl (g.2 1, n, .inl f))) {i : Int32} (k : Nat) (hi : i = nI k) (hk : k < n) (hn : n < 2147483648) (v : Int32) (hv : f k = v) (hdg : decode cc pc = .ok (.iaload, 1))
    (kk : W p l e R s m args below meth c H locs cells slots Q (F0 m (pc + 1) ls (.int v :: rest))) : W p l e R s m args below meth c H locs cells slots Q (F0 m pc ls (.int i :: .ref a :: rest)) := by
  obtain ⟨h1, h2⟩ := he_in hi hk hn
  refine va_iald hexec hb hK hP q0 1 ha rfl h1 hdg ?_
  rw [h2, hv]
  exact kk
theorem he_bald (hexec : p.tables.exec = Jvm.exec) (hb : c.code = cc) (hK : va_K g.1 vwCl (he_ty g) s) (hP : va_P g.1 vwCl ws H) (q0 : Nat) {a n : Nat} {f : Nat → Int32} (ha : ws[q0]? = some (a, .inl (g.2 0, n, .inl f))) {i : Int32} (k : Nat) (hi : i = nI k) (hk : k < n) (hn : n < 2147483648) (v : Int32) (hv : f k = v) (hdg : decode cc pc = .ok (.baload, 1))
    (kk : W p l e R s m args below meth c H locs cells slots Q (F0 m (pc + 1) ls (.int v :: rest))) : W p l e R s m args below meth c H locs cells slots Q (F0 m pc ls (.int i :: .ref a :: rest)) := by
  obtain ⟨h1, h2⟩ := he_in hi hk hn
  refine va_bald hexec hb hK hP q0 0 ha rfl h1 hdg ?_
  rw [h2, hv]
  exact kk
theorem he_iast (hexec : p.tables.exec = Jvm.exec) (hb : c.code = cc) (hK : va_K g.1 vwCl (he_ty g) s) (hP : va_P g.1 vwCl ws H) (hD : va_D A ws) (hS : va_S A s.heap H locs) (q0 : Nat) {a n : Nat} {f : Nat → Int32} (ha : ws[q0]? = some (a, .inl (g.2 1, n, .inl f))) {i : Int32} (k : Nat) (hi : i = nI k) (hk : k < n) (hn : n < 2147483648) {x : Int32} (hdg : decode cc pc = .ok (.iastore, 1))
    (kk : ∀ (H1 : Heap) (locs1 : List Loc), va_P g.1 vwCl (ws.set q0 (a, .inl (g.2 1, n, .inl (upd f k x)))) H1 → va_D A (ws.set q0 (a, .inl (g.2 1, n, .inl (upd f k x)))) → va_S A s.heap H1 locs1 → W p l e R s m args below meth c H1 locs1 cells slots Q (F0 m (pc + 1) ls rest)) : W p l e R s m args below meth c H locs cells slots Q (F0 m pc ls (.int x :: .int i :: .ref a :: rest)) := by
  obtain ⟨h1, h2⟩ := he_in hi hk hn
  refine va_iast hexec hb hK hP hD hS q0 1 ha rfl h1 hdg ?_
  rw [h2]
  exact kk
theorem he_bast (hexec : p.tables.exec = Jvm.exec) (hb : c.code = cc) (hK : va_K g.1 vwCl (he_ty g) s) (hP : va_P g.1 vwCl ws H) (hD : va_D A ws) (hS : va_S A s.heap H locs) (q0 : Nat) {a n : Nat} {f : Nat → Int32} (ha : ws[q0]? = some (a, .inl (g.2 0, n, .inl f))) {i : Int32} (k : Nat) (hi : i = nI k) (hk : k < n) (hn : n < 2147483648) {x : Int32} (hdg : decode cc pc = .ok (.bastore, 1))
    (kk : ∀ (H1 : Heap) (locs1 : List Loc), va_P g.1 vwCl (ws.set q0 (a, .inl (g.2 0, n, .inl (upd f k (vp_nar .byte x))))) H1 → va_D A (ws.set q0 (a, .inl (g.2 0, n, .inl (upd f k (vp_nar .byte x))))) → va_S A s.heap H1 locs1 → W p l e R s m args below meth c H1 locs1 cells slots Q (F0 m (pc + 1) ls rest)) : W p l e R s m args below meth c H locs cells slots Q (F0 m pc ls (.int x :: .int i :: .ref a :: rest)) := by
  obtain ⟨h1, h2⟩ := he_in hi hk hn
  refine va_bast hexec hb hK hP hD hS q0 0 ha rfl h1 hdg ?_
  rw [h2]
  exact kk
theorem he_aast (hexec : p.tables.exec = Jvm.exec) (hb : c.code = cc) (hK : va_K g.1 vwCl (he_ty g) s) (hP : va_P g.1 vwCl ws H) (hD : va_D A ws) (hS : va_S A s.heap H locs) (q0 t0 qk ci : Nat) {cA : ClassId} {r : vw_C} {a n v : Nat} {vs : List Value} {f : Nat → Option Nat} (ha : ws[q0]? = some (a, .inl (cA, n, .inr (.inr (.inr (.inr f)))))) (ht : (he_ty g)[t0]? = some (cA, .object r.1)) (hv : ws[qk]? = some (v, .inr (ci, vs))) (hc : vwCl[ci]? = some r) {i : Int32} (k : Nat) (hi : i = nI k) (hk : k < n) (hn : n < 2147483648) (hdg : decode cc pc = .ok (.aastore, 1))
    (kk : ∀ (H1 : Heap) (locs1 : List Loc), va_P g.1 vwCl (ws.set q0 (a, .inl (cA, n, .inr (.inr (.inr (.inr (va_up f k (some v)))))))) H1 → va_D A (ws.set q0 (a, .inl (cA, n, .inr (.inr (.inr (.inr (va_up f k (some v)))))))) → va_S A s.heap H1 locs1 → W p l e R s m args below meth c H1 locs1 cells slots Q (F0 m (pc + 1) ls rest)) : W p l e R s m args below meth c H locs cells slots Q (F0 m pc ls (.ref v :: .int i :: .ref a :: rest)) := by
  obtain ⟨h1, h2⟩ := he_in hi hk hn
  refine va_astq hexec hb hK hP hD hS q0 t0 qk ci ha ht hv hc h1 hdg ?_
  rw [h2]
  exact kk
theorem he_tald (hexec : p.tables.exec = Jvm.exec) (hb : c.code = cc) {t N : Nat} {tb : List Int32} (hT : va_T .int t N (he_tab tb) A s s.heap) (hS : va_S A s.heap H locs) {i : Int32} (k : Nat) (hi : i = nI k) (hk : k < N) (hn : N < 2147483648) (v : Int32) (hv : tb.getD k 0 = v) (hdg : decode cc pc = .ok (.iaload, 1))
    (kk : W p l e R s m args below meth c H locs cells slots Q (F0 m (pc + 1) ls (.int v :: rest))) : W p l e R s m args below meth c H locs cells slots Q (F0 m pc ls (.int i :: .ref t :: rest)) := by
  obtain ⟨h1, h2⟩ := he_in hi hk hn
  exact va_ti hexec hb hT hS h1 (v := .int v) (by rw [h2, he_tab, hv]) hdg kk
theorem he_ald (hexec : p.tables.exec = Jvm.exec) (hb : c.code = cc) {C : String} (t0 : Nat) {cA : ClassId} (ht : (he_ty g)[t0]? = some (cA, .object C)) (hK : va_K g.1 vwCl (he_ty g) s) (hP : va_P g.1 vwCl ws H) (q0 : Nat) {a n : Nat} {f : Nat → Option Nat} (ha : ws[q0]? = some (a, .inl (cA, n, .inr (.inr (.inr (.inr f)))))) {i : Int32} (k : Nat) (hi : i = nI k) (hk : k < n) (hn : n < 2147483648) (v : Value) (hv : va_rf (f k) = v) (hdg : decode cc pc = .ok (.aaload, 1))
    (kk : W p l e R s m args below meth c H locs cells slots Q (F0 m (pc + 1) ls (v :: rest))) : W p l e R s m args below meth c H locs cells slots Q (F0 m pc ls (.int i :: .ref a :: rest)) := by
  obtain ⟨h1, h2⟩ := he_in hi hk hn
  refine va_aldq hexec hb hK hP q0 t0 ha ht h1 hdg ?_
  rw [h2, hv]
  exact kk
theorem he_newP (hexec : p.tables.exec = Jvm.exec) (hb : c.code = cc) {own : String} {index : Nat} (hown : s.vm.findClass own = some m.cls) (hclink : (Cond.classLink own index RX5).before args s = true) (hover : va_AO RX5 s) (hK : va_K g.1 vwCl (he_ty g) s) (hP : va_P g.1 vwCl ws H) (hD : va_D A ws) (hS : va_S A s.heap H locs) (hA : ∀ q, s.heap.size ≤ q → A q)
    {n : Int32} (N : Nat) (hn : ¬ n < 0) (hN : n.toNatClampNeg = N) (hbytes : N * 4 ≤ 536870912) (hcells : cells + 1 ≤ R.cells) (hslots : slots + N ≤ R.slots) (hdg : decode cc pc = .ok (.anewarray index, 3))
    (kk : ∀ (q : Nat) (H1 : Heap), va_P g.1 vwCl (ws ++ [(q, .inl (g.2 2, N, .inr (.inr (.inr (.inr (fun _ => none))))))]) H1 → va_D A (ws ++ [(q, .inl (g.2 2, N, .inr (.inr (.inr (.inr (fun _ => none))))))]) → va_S A s.heap H1 locs →
      W p l e R s m args below meth c H1 locs (cells + 1) (slots + N) Q (F0 m (pc + 3) ls (.ref q :: rest))) : W p l e R s m args below meth c H locs cells slots Q (F0 m pc ls (.int n :: rest)) := by
  refine va_newq hexec hb hown hclink hover hK hP hD hS hA hn hN hbytes hcells hslots hdg (fun q cA H1 hK1 hP1 hD1 hS1 => ?_)
  obtain ⟨-, -, -, -, -, h1⟩ := (hK1.2 6 (cA, .object RX5) rfl).2
  obtain ⟨-, -, -, -, -, h2⟩ := (hK.2 2 (g.2 2, .object RX5) rfl).2
  have e : cA = g.2 2 := he_same h1 h2
  rw [e] at hP1 hD1
  exact kk q H1 hP1 hD1 hS1
theorem he_newS (hexec : p.tables.exec = Jvm.exec) (hb : c.code = cc) {own : String} {index : Nat} (hown : s.vm.findClass own = some m.cls) (hclink : (Cond.classLink own index RX8).before args s = true) (hover : va_AO RX8 s) (hK : va_K g.1 vwCl (he_ty g) s) (hP : va_P g.1 vwCl ws H) (hD : va_D A ws) (hS : va_S A s.heap H locs) (hA : ∀ q, s.heap.size ≤ q → A q)
    {n : Int32} (N : Nat) (hn : ¬ n < 0) (hN : n.toNatClampNeg = N) (hbytes : N * 4 ≤ 536870912) (hcells : cells + 1 ≤ R.cells) (hslots : slots + N ≤ R.slots) (hdg : decode cc pc = .ok (.anewarray index, 3))
    (kk : ∀ (q : Nat) (H1 : Heap), va_P g.1 vwCl (ws ++ [(q, .inl (g.2 3, N, .inr (.inr (.inr (.inr (fun _ => none))))))]) H1 → va_D A (ws ++ [(q, .inl (g.2 3, N, .inr (.inr (.inr (.inr (fun _ => none))))))]) → va_S A s.heap H1 locs →
      W p l e R s m args below meth c H1 locs (cells + 1) (slots + N) Q (F0 m (pc + 3) ls (.ref q :: rest))) : W p l e R s m args below meth c H locs cells slots Q (F0 m pc ls (.int n :: rest)) := by
  refine va_newq hexec hb hown hclink hover hK hP hD hS hA hn hN hbytes hcells hslots hdg (fun q cA H1 hK1 hP1 hD1 hS1 => ?_)
  obtain ⟨-, -, -, -, -, h1⟩ := (hK1.2 6 (cA, .object RX8) rfl).2
  obtain ⟨-, -, -, -, -, h2⟩ := (hK.2 3 (g.2 3, .object RX8) rfl).2
  have e : cA = g.2 3 := he_same h1 h2
  rw [e] at hP1 hD1
  exact kk q H1 hP1 hD1 hS1
theorem he_newi (hexec : p.tables.exec = Jvm.exec) (hb : c.code = cc) (harr : (Cond.arrayClass .int).before args s = true) (hK : va_K g.1 vwCl (he_ty g) s) (hP : va_P g.1 vwCl ws H) (hD : va_D A ws) (hS : va_S A s.heap H locs) (hA : ∀ q, s.heap.size ≤ q → A q)
    {n : Int32} (N : Nat) (hn : ¬ n < 0) (hN : n.toNatClampNeg = N) (hbytes : N * componentBytes .int ≤ 536870912) (hcells : cells + 1 ≤ R.cells) (hslots : slots + N ≤ R.slots) (hdg : decode cc pc = .ok (.newarray .int, 2))
    (kk : ∀ (q : Nat) (H1 : Heap), va_P g.1 vwCl (ws ++ [(q, .inl (g.2 1, N, .inl (fun _ => 0)))]) H1 → va_D A (ws ++ [(q, .inl (g.2 1, N, .inl (fun _ => 0)))]) → va_S A s.heap H1 locs →
      W p l e R s m args below meth c H1 locs (cells + 1) (slots + N) Q (F0 m (pc + 2) ls (.ref q :: rest))) : W p l e R s m args below meth c H locs cells slots Q (F0 m pc ls (.int n :: rest)) := by
  refine va_newa (a0 := (N, .inl (fun _ => 0))) hexec hb (atype := .int) harr rfl hK hP hD hS hA (fun cA => rfl) hn hN hbytes hcells hslots hdg (fun q cA H1 hK1 hP1 hD1 hS1 => ?_)
  have h1 := (hK1.2 6 (cA, .int) rfl).2
  have h2 := (hK.2 1 (g.2 1, .int) rfl).2
  have e : cA = g.2 1 := he_same h1 h2
  rw [e] at hP1 hD1
  exact kk q H1 hP1 hD1 hS1
theorem he_newb (hexec : p.tables.exec = Jvm.exec) (hb : c.code = cc) (harr : (Cond.arrayClass .byte).before args s = true) (hK : va_K g.1 vwCl (he_ty g) s) (hP : va_P g.1 vwCl ws H) (hD : va_D A ws) (hS : va_S A s.heap H locs) (hA : ∀ q, s.heap.size ≤ q → A q)
    {n : Int32} (N : Nat) (hn : ¬ n < 0) (hN : n.toNatClampNeg = N) (hbytes : N * componentBytes .byte ≤ 536870912) (hcells : cells + 1 ≤ R.cells) (hslots : slots + N ≤ R.slots) (hdg : decode cc pc = .ok (.newarray .byte, 2))
    (kk : ∀ (q : Nat) (H1 : Heap), va_P g.1 vwCl (ws ++ [(q, .inl (g.2 0, N, .inl (fun _ => 0)))]) H1 → va_D A (ws ++ [(q, .inl (g.2 0, N, .inl (fun _ => 0)))]) → va_S A s.heap H1 locs →
      W p l e R s m args below meth c H1 locs (cells + 1) (slots + N) Q (F0 m (pc + 2) ls (.ref q :: rest))) : W p l e R s m args below meth c H locs cells slots Q (F0 m pc ls (.int n :: rest)) := by
  refine va_newa (a0 := (N, .inl (fun _ => 0))) hexec hb (atype := .byte) harr rfl hK hP hD hS hA (fun cA => rfl) hn hN hbytes hcells hslots hdg (fun q cA H1 hK1 hP1 hD1 hS1 => ?_)
  have h1 := (hK1.2 6 (cA, .byte) rfl).2
  have h2 := (hK.2 0 (g.2 0, .byte) rfl).2
  have e : cA = g.2 0 := he_same h1 h2
  rw [e] at hP1 hD1
  exact kk q H1 hP1 hD1 hS1
theorem he_xv {En : String} {wx : va_W} {a : Array Value} {mc ms : Nat} (hr : vx_Run p l e R s m args below meth c H locs cells slots mc ms (F0 m pc ls st0) rest (he_QTv (va_A wc H.size) a) (he_XC g (va_A wc H.size) En wx) (va_A wc H.size)) (hP : va_P g.1 vwCl ws H) (hD : va_D A ws) (hS : va_S A s.heap H locs) (hA : ∀ q, s.heap.size ≤ q → A q) (isC isR : List Nat) (hC : isC.map (fun i => ws[i]?) = wc.map some) (hR : isR.map (fun i => ws[i]?) = wr.map some) (hn : va_nd isR = true) (hdis : ∀ i ∈ isR, i ∉ isC)
    (kx : ∀ (ce : Cell) (q9 : Addr) (H1 : Heap) (locs1 : List Loc), va_P g.1 vwCl (wr ++ wx) H1 → va_D A (wr ++ wx) → va_S A s.heap H1 locs1 → H1[q9]? = some ce → ce.vm = .none → s.vm.findClass En = some ce.cls → vx_W p l e R s m args below meth c H1 locs1 (cells + mc) (slots + ms) Q (F0 m pc ls rest) q9) : W p l e R s m args below meth c H locs cells slots Q (F0 m pc ls st0) := by
  have hF := va_free hD hS hA isC hC
  refine vx_callv hr hS (fun q _ h => hF q h) hF (fun q _ h => hF q h) (fun E ce q9 u t H1 locs1 ht hvm hp hB hz1 hk1 hS1 hce hcv hcl => ?_) (fun u t H1 locs1 ht hvm hw hB hz1 hk1 hS1 => hw.elim)
  obtain ⟨rfl, hP1, hD1⟩ := hB
  rw [ht] at hP1
  obtain ⟨hP2, hD2⟩ := va_join hP hD isC isR hC hR hn hdis hk1 hF hP1 hD1
  exact kx ce q9 H1 locs1 hP2 hD2 hS1 hce hcv hcl
theorem he_xi {En : String} {wx : va_W} {a : Array Value} {mc ms : Nat} (hr : vx_Run p l e R s m args below meth c H locs cells slots mc ms (F0 m pc ls st0) rest (he_QTi (va_A wc H.size) a) (he_XC g (va_A wc H.size) En wx) (va_A wc H.size)) (hP : va_P g.1 vwCl ws H) (hD : va_D A ws) (hS : va_S A s.heap H locs) (hA : ∀ q, s.heap.size ≤ q → A q) (isC isR : List Nat) (hC : isC.map (fun i => ws[i]?) = wc.map some) (hR : isR.map (fun i => ws[i]?) = wr.map some) (hn : va_nd isR = true) (hdis : ∀ i ∈ isR, i ∉ isC)
    (kx : ∀ (ce : Cell) (q9 : Addr) (H1 : Heap) (locs1 : List Loc), va_P g.1 vwCl (wr ++ wx) H1 → va_D A (wr ++ wx) → va_S A s.heap H1 locs1 → H1[q9]? = some ce → ce.vm = .none → s.vm.findClass En = some ce.cls → vx_W p l e R s m args below meth c H1 locs1 (cells + mc) (slots + ms) Q (F0 m pc ls rest) q9) : W p l e R s m args below meth c H locs cells slots Q (F0 m pc ls st0) := by
  have hF := va_free hD hS hA isC hC
  refine vx_calli hr hS (fun q _ h => hF q h) hF (fun q _ h => hF q h) (fun E ce q9 u t H1 locs1 ht hvm hp hB hz1 hk1 hS1 hce hcv hcl => ?_) (fun r u t H1 locs1 ht hvm hw hB hz1 hk1 hS1 => hw.elim)
  obtain ⟨rfl, hP1, hD1⟩ := hB
  rw [ht] at hP1
  obtain ⟨hP2, hD2⟩ := va_join hP hD isC isR hC hR hn hdis hk1 hF hP1 hD1
  exact kx ce q9 H1 locs1 hP2 hD2 hS1 hce hcv hcl
theorem he_xj {En : String} {wx : va_W} {a : Array Value} {mc ms : Nat} (hr : vx_Run p l e R s m args below meth c H locs cells slots mc ms (F0 m pc ls st0) rest (he_QTj (va_A wc H.size) a) (he_XC g (va_A wc H.size) En wx) (va_A wc H.size)) (hP : va_P g.1 vwCl ws H) (hD : va_D A ws) (hS : va_S A s.heap H locs) (hA : ∀ q, s.heap.size ≤ q → A q) (isC isR : List Nat) (hC : isC.map (fun i => ws[i]?) = wc.map some) (hR : isR.map (fun i => ws[i]?) = wr.map some) (hn : va_nd isR = true) (hdis : ∀ i ∈ isR, i ∉ isC)
    (kx : ∀ (ce : Cell) (q9 : Addr) (H1 : Heap) (locs1 : List Loc), va_P g.1 vwCl (wr ++ wx) H1 → va_D A (wr ++ wx) → va_S A s.heap H1 locs1 → H1[q9]? = some ce → ce.vm = .none → s.vm.findClass En = some ce.cls → vx_W p l e R s m args below meth c H1 locs1 (cells + mc) (slots + ms) Q (F0 m pc ls rest) q9) : W p l e R s m args below meth c H locs cells slots Q (F0 m pc ls st0) := by
  have hF := va_free hD hS hA isC hC
  refine vx_calll hr hS (fun q _ h => hF q h) hF (fun q _ h => hF q h) (fun E ce q9 u t H1 locs1 ht hvm hp hB hz1 hk1 hS1 hce hcv hcl => ?_) (fun r u t H1 locs1 ht hvm hw hB hz1 hk1 hS1 => hw.elim)
  obtain ⟨rfl, hP1, hD1⟩ := hB
  rw [ht] at hP1
  obtain ⟨hP2, hD2⟩ := va_join hP hD isC isR hC hR hn hdis hk1 hF hP1 hD1
  exact kx ce q9 H1 locs1 hP2 hD2 hS1 hce hcv hcl
theorem he_out {En : String} {wx : va_W} {mc ms : Nat} {Qc : Array Value → State → Outcome → State → Prop} {ce : Cell} {q : Addr} (hQ : Q = vx_MQ below Qc (he_XC g A En wx) args s mc ms A) (hlk : meth.locks = false) (hne : ∀ x ∈ c.exceptionTable.toList, False) (hP : va_P g.1 vwCl wx H) (hD : va_D A wx) (hS : va_S A s.heap H locs) (hce : H[q]? = some ce) (hcv : ce.vm = .none) (hcl : s.vm.findClass En = some ce.cls) (hc : cells ≤ mc) (hs : slots ≤ ms) : vx_W p l e R s m args below meth c H locs cells slots Q (F0 m pc ls rest) q := by
  subst hQ
  exact vx_out (fun x hx => (hne x hx).elim) hlk hce hcv hcl (fun t ht hvm => ⟨(), trivial, ⟨rfl, by rw [ht]; exact hP, hD⟩, hS.F ht⟩) hS.2.2 hc hs
theorem he_grow {ws : va_W} {H1 : Heap} (hP : va_P g.1 vwCl ws H) (hq : ∀ q : Nat, q < H.size → H1[q]? = H[q]?) : va_P g.1 vwCl ws H1 := fun k q hk => (hP k q hk).kept (hq q.1 (hP k q hk).lt)
theorem he_thx {En : String} {wx : va_W} (hP : va_P g.1 vwCl wx H) (hD : va_D A wx) (hS : va_S A s.heap H locs) (t : State) (hz : H.size ≤ t.heap.size) (hq : ∀ q : Nat, q < H.size → t.heap[q]? = H[q]?) : he_XC g A En wx En s t :=
  ⟨(), trivial, ⟨rfl, he_grow hP hq, hD⟩, Nat.le_trans hS.1 hz, fun q h1 h2 => by rw [hq q (Nat.lt_of_lt_of_le h1 hS.1)]; exact hS.2.1 q h1 h2⟩
theorem he_hat {own cls : String} {ic : Nat} {names : List String} (hE : he_E g A s s.heap) (h1 : ∀ w ∈ (vx_atS own ic cls names).filter goodWord, w.before args s = true) (h2 : ∀ w ∈ (vx_atS own ic cls names).filter (fun w => !goodWord w), w ∈ he_decl.map Cond.declares ++ he_cast.map (fun q => Cond.castable q.1 q.2)) : ∀ w ∈ vx_atS own ic cls names, w.before args s = true :=
  vx_hat h1 h2 (fun w hw => by
    rcases List.mem_append.mp hw with hw | hw
    · obtain ⟨x, hx, rfl⟩ := List.mem_map.mp hw; exact va_Nw.use rfl (hE.decl x hx)
    · obtain ⟨x, hx, rfl⟩ := List.mem_map.mp hw; exact va_Nw.use rfl (hE.cast x hx))
theorem he_hatL {L : List Cond} (hE : he_E g A s s.heap) (h1 : ∀ w ∈ L.filter goodWord, w.before args s = true) (h2 : ∀ w ∈ L.filter (fun w => !goodWord w), w ∈ he_decl.map Cond.declares ++ he_cast.map (fun q => Cond.castable q.1 q.2)) : ∀ w ∈ L, w.before args s = true :=
  vx_hat h1 h2 (fun w hw => by
    rcases List.mem_append.mp hw with hw | hw
    · obtain ⟨x, hx, rfl⟩ := List.mem_map.mp hw; exact va_Nw.use rfl (hE.decl x hx)
    · obtain ⟨x, hx, rfl⟩ := List.mem_map.mp hw; exact va_Nw.use rfl (hE.cast x hx))
end HEA
section HEB
variable {l : Launch} {g : he_G} {y : MethodName} {wl wl' : List Cond} {cc : ByteArray} {maxL fr lo mc ms : Nat} {av : List Value} {ws : va_W}
/-- what a body starts with -/
abbrev he_B (p : Program) (s : State) (m : MethodId) (args : Array Value) (meth : Method) (c : Code) (A : Nat → Prop) (ls : Array Slot) (H : Heap) (locs : List Loc) (g : he_G) (y : MethodName) (wl : List Cond) (cc : ByteArray) (maxL : Nat) (ret : Option FieldType) (av : List Value) (ws : va_W) : Prop :=
  p.tables.exec = Jvm.exec ∧ c.code = cc ∧ meth.sig.returnType = ret ∧ c.maxLocals = maxL ∧ s.vm.findClass y.cls = some m.cls ∧ (∀ w ∈ wl, w.before args s = true) ∧ meth.locks = false ∧ meth.name = y.name ∧ va_P g.1 vwCl ws H ∧ va_K g.1 vwCl (he_ty g) s ∧ va_D A ws ∧ va_S A s.heap H locs ∧ (∀ q, s.heap.size ≤ q → A q) ∧ he_E g A s s.heap ∧ lv_has ls maxL (lv_args 0 av)
theorem he_begin {ret : Option FieldType} (Qf : (Nat → Prop) → Array Value → State → Outcome → State → Prop) (hy : plainName y.cls = true) (hw : wl = Cond.code y cc maxL ret :: wl') (hav : (lg_sl av).length ≤ maxL)
    (body : ∀ (p : Program) (e : Env) (s : State) (m : MethodId) (args : Array Value) (below : List Frame) (meth : Method) (c : Code) (A : Nat → Prop) (ls : Array Slot) (H : Heap) (locs : List Loc) (Q : State → Prop), Q = MQ below (Qf A) args s mc ms A → he_B p s m args meth c A ls H locs g y wl cc maxL ret av ws →
      W p l e (he_room fr lo mc ms) s m args below meth c H locs 0 0 Q (F0 m 0 ls [])) (sz : Nat) : Met l y wl (he_room fr lo mc ms) (va_Pc av (he_pre g ws sz)) (Qf (va_A ws sz)) mc ms (va_A ws sz) := by
  refine Met.ofW (cc := cc) (maxL := maxL) (ret := ret) hy hw ?_
  intro p e s m args below meth c s₁ B hml hv
  obtain ⟨rfl, hsz, hP, hK, hD0, hE⟩ := hv
  subst hsz
  have hD := hD0.self (sz := s.heap.size)
  have hl := lv_entry av (n := maxL) hav
  rw [lg_entry_eq]
  exact body p e s m _ below meth c (va_A ws s.heap.size) _ _ _ _ rfl ⟨B.exec, B.bytes, B.returns, hml, findClass_of_methodNamed B.named, atoms_spec (ws := wl) B.pre, B.notSynchronized, (name_of_methodNamed B.named B.method).1, hP, hK, hD, va_S.rf, fun q h => Or.inr h, hE, hl⟩
theorem he_beginX {ret : Option FieldType} {En : String} {wx : va_W} (QT : (Nat → Prop) → Array Value → State → Outcome → State → Prop) (hy : plainName y.cls = true) (hw : wl = Cond.code y cc maxL ret :: wl') (hav : (lg_sl av).length ≤ maxL)
    (body : ∀ (p : Program) (e : Env) (s : State) (m : MethodId) (args : Array Value) (below : List Frame) (meth : Method) (c : Code) (A : Nat → Prop) (ls : Array Slot) (H : Heap) (locs : List Loc) (Q : State → Prop), Q = vx_MQ below (QT A) (he_XC g A En wx) args s mc ms A → (∀ x ∈ c.exceptionTable.toList, False) → he_B p s m args meth c A ls H locs g y wl cc maxL ret av ws →
      W p l e (he_room fr lo mc ms) s m args below meth c H locs 0 0 Q (F0 m 0 ls [])) : he_T QT l y wl fr lo mc ms g av ws En wx := by
  intro sz
  refine vx_ofW (cc := cc) (maxL := maxL) (ret := ret) hy hw ?_
  intro p e s m args below meth c s₁ B hml hne hv
  obtain ⟨rfl, hsz, hP, hK, hD0, hE⟩ := hv
  subst hsz
  have hD := hD0.self (sz := s.heap.size)
  have hl := lv_entry av (n := maxL) hav
  rw [lg_entry_eq]
  exact body p e s m _ below meth c (va_A ws s.heap.size) _ _ _ _ rfl hne ⟨B.exec, B.bytes, B.returns, hml, findClass_of_methodNamed B.named, atoms_spec (ws := wl) B.pre, B.notSynchronized, (name_of_methodNamed B.named B.method).1, hP, hK, hD, va_S.rf, fun q h => Or.inr h, hE, hl⟩
end HEB
section HEX
variable {p : Program} {l : Launch} {e : Env} {R : Room} {s : State} {m : MethodId} {args : Array Value} {below : List Frame} {meth : Method} {c : Code} {H : Heap} {locs : List Loc} {cells slots : Nat} {Q : State → Prop} {g : he_G} {A : Nat → Prop} {ws : va_W} {pc : Nat} {ls : Array Slot} {rest : List Value} {cc : ByteArray}
theorem he_tbld (hexec : p.tables.exec = Jvm.exec) (hb : c.code = cc) {t N : Nat} {tb : List Int32} (hT : va_T .byte t N (he_tab tb) A s s.heap) (hS : va_S A s.heap H locs) {i : Int32} (k : Nat) (hi : i = nI k) (hk : k < N) (hn : N < 2147483648) (v : Int32) (hv : tb.getD k 0 = v) (hdg : decode cc pc = .ok (.baload, 1))
    (kk : W p l e R s m args below meth c H locs cells slots Q (F0 m (pc + 1) ls (.int v :: rest))) : W p l e R s m args below meth c H locs cells slots Q (F0 m pc ls (.int i :: .ref t :: rest)) := by
  obtain ⟨h1, h2⟩ := he_in hi hk hn
  exact va_tb hexec hb hT hS h1 (v := .int v) (by rw [h2, he_tab, hv]) hdg kk
theorem he_preO {wc : va_W} (hK : va_K g.1 vwCl (he_ty g) s) (hP : va_P g.1 vwCl ws H) (hD : va_D A ws) (hS : va_S A s.heap H locs) (hA : ∀ q, s.heap.size ≤ q → A q) (hE : he_E g A s s.heap) (isC : List Nat) (hC : isC.map (fun i => ws[i]?) = wc.map some) (hnd : va_nd isC = true) {b : Nat} {C : String} (hO : va_O C b A s s.heap) {av : List Value} : PreV s H C b (va_Pc (.ref b :: av) (he_pre g wc H.size)) av := ⟨he_fb, (by obtain ⟨cell, h1, h2, h3, -⟩ := hO.kept hS.2.1; exact ⟨cell, h1, h2, h3⟩), fun U hU hW => ⟨rfl, he_preX hK hP hD hS hA hE isC hC hnd U hU hW⟩⟩
/-- a short number is given back -/
theorem he_rn {S : Type} {post : Int32 → S → Prop} {w1 : S → va_W} {mc ms : Nat} {v : Int32} {ty : FieldType} {ws1 : va_W} (hQ : Q = MQ below (va_Qi post (fun u t => he_post g A (w1 u) t) A) args s mc ms A) (hx : p.tables.exec = Jvm.exec) (hb : c.code = cc) (hr : meth.sig.returnType = some ty) (hlk : meth.locks = false) (hP : va_P g.1 vwCl ws1 H) (hD : va_D A ws1) (hS : va_S A s.heap H locs) (hdg : decode cc pc = .ok (.ireturn, 1)) (hc : cells ≤ mc) (hs : slots ≤ ms) (hn : narrow ty (.int v) = .int v) (u : S) (hw : w1 u = ws1) (hp : post v u) : W p l e R s m args below meth c H locs cells slots Q (F0 m pc ls [.int v]) := by
  subst hQ
  refine W.widen (k := mc) (n := ms) hc hs ?_
  exact W.zret (v := v) hx hb hr hn (fun t ht hW => ⟨⟨v, u, rfl, hp, by rw [hw, ht]; exact hP, by rw [hw]; exact hD⟩, hS.F ht⟩) hS.2.2 hdg hlk
end HEX
