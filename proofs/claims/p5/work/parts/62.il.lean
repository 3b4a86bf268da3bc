/-! class, reference and the row of one long as one state -/
abbrev lcX (x0 : Nat) (fx : List Value) : Nat × va_E := (x0, .inr (9, fx))
abbrev lcM (m0 : Nat) (fm : List Value) : Nat × va_E := (m0, .inr (10, fm))
abbrev lcO (g : he_G) (o0 : Nat) (fo : Nat → Int64) : Nat × va_E := (o0, .inl (g.2 5, 1, .inr (.inl fo)))
def IL (g : he_G) (x0 m0 o0 : Nat) (Sx Sm : AbS) (t : Int32) (fo : Nat → Int64) (W : va_W) : Prop := ∃ (fx fm : List Value) (Rc Rm : va_W), W = [(x0, .inr (9, fx)), (m0, .inr (10, fm)), (o0, .inl (g.2 5, 1, .inr (.inl fo)))] ++ (Rc ++ Rm) ∧ IC g x0 Sx ((x0, .inr (9, fx)) :: Rc) ∧ IM g m0 Sm t ((m0, .inr (10, fm)) :: Rm)
theorem pm_C {a b c : Nat × va_E} {R Q : va_W} : ([a, b, c] ++ (R ++ Q)).Perm ((a :: R) ++ (b :: c :: Q)) := by
  show (a :: b :: c :: (R ++ Q)).Perm (a :: (R ++ (b :: c :: Q)))
  refine List.Perm.cons a ?_
  exact (List.perm_middle.trans (List.Perm.cons b List.perm_middle)).symm
theorem pm_M {a b c : Nat × va_E} {R Q : va_W} : ([a, b, c] ++ (R ++ Q)).Perm ((b :: Q) ++ (a :: c :: R)) := by
  show (a :: b :: c :: (R ++ Q)).Perm (b :: (Q ++ (a :: c :: R)))
  refine (List.Perm.swap b a _).trans (List.Perm.cons b ?_)
  exact (List.Perm.cons a (List.Perm.cons c List.perm_append_comm)).trans ((List.perm_middle.trans (List.Perm.cons a List.perm_middle)).symm)
section ILS
variable {l : Launch} {y : MethodName} {wl : List Cond} {fr lo mc ms : Nat} {g : he_G} {av : List Value} {x0 m0 o0 : Nat} {Sx Sx2 Sm Sm2 : AbS} {t : Int32} {fx fm : List Value} {fo : Nat → Int64} {Rc Rm : va_W}
theorem il_cI {pr : Int32 → Prop} (h : he_I l y wl fr lo mc ms g av ((x0, .inr (9, fx)) :: Rc) (fun (r : Int32) (W2 : va_W) => IC g x0 Sx2 W2 ∧ pr r) (fun W2 => W2)) (hm : IM g m0 Sm t ((m0, .inr (10, fm)) :: Rm)) : he_I l y wl fr lo mc ms g av ([(x0, .inr (9, fx)), (m0, .inr (10, fm)), (o0, .inl (g.2 5, 1, .inr (.inl fo)))] ++ (Rc ++ Rm)) (fun (r : Int32) (W2 : va_W) => IL g x0 m0 o0 Sx2 Sm t fo W2 ∧ pr r) (fun W2 => W2) := by
  refine he_liftI ((m0, .inr (10, fm)) :: (o0, .inl (g.2 5, 1, .inr (.inl fo))) :: Rm) h ⟨Nat.le_refl _, Nat.le_refl _, Nat.le_refl _, Nat.le_refl _⟩ pm_C (fun r u hu => ?_)
  obtain ⟨fx2, R2, rfl⟩ := hu.1.head
  exact ⟨_, ⟨⟨fx2, fm, R2, Rm, rfl, hu.1, hm⟩, hu.2⟩, pm_C⟩
theorem il_cJ {pr : Int64 → Prop} (h : he_J l y wl fr lo mc ms g av ((x0, .inr (9, fx)) :: Rc) (fun (r : Int64) (W2 : va_W) => IC g x0 Sx2 W2 ∧ pr r) (fun W2 => W2)) (hm : IM g m0 Sm t ((m0, .inr (10, fm)) :: Rm)) : he_J l y wl fr lo mc ms g av ([(x0, .inr (9, fx)), (m0, .inr (10, fm)), (o0, .inl (g.2 5, 1, .inr (.inl fo)))] ++ (Rc ++ Rm)) (fun (r : Int64) (W2 : va_W) => IL g x0 m0 o0 Sx2 Sm t fo W2 ∧ pr r) (fun W2 => W2) := by
  refine he_liftJ ((m0, .inr (10, fm)) :: (o0, .inl (g.2 5, 1, .inr (.inl fo))) :: Rm) h ⟨Nat.le_refl _, Nat.le_refl _, Nat.le_refl _, Nat.le_refl _⟩ pm_C (fun r u hu => ?_)
  obtain ⟨fx2, R2, rfl⟩ := hu.1.head
  exact ⟨_, ⟨⟨fx2, fm, R2, Rm, rfl, hu.1, hm⟩, hu.2⟩, pm_C⟩
theorem il_cV {pr : Prop} (h : he_V l y wl fr lo mc ms g av ((x0, .inr (9, fx)) :: Rc) (fun (W2 : va_W) => IC g x0 Sx2 W2 ∧ pr) (fun W2 => W2)) (hm : IM g m0 Sm t ((m0, .inr (10, fm)) :: Rm)) : he_V l y wl fr lo mc ms g av ([(x0, .inr (9, fx)), (m0, .inr (10, fm)), (o0, .inl (g.2 5, 1, .inr (.inl fo)))] ++ (Rc ++ Rm)) (fun (W2 : va_W) => IL g x0 m0 o0 Sx2 Sm t fo W2 ∧ pr) (fun W2 => W2) := by
  refine he_liftV ((m0, .inr (10, fm)) :: (o0, .inl (g.2 5, 1, .inr (.inl fo))) :: Rm) h ⟨Nat.le_refl _, Nat.le_refl _, Nat.le_refl _, Nat.le_refl _⟩ pm_C (fun u hu => ?_)
  obtain ⟨fx2, R2, rfl⟩ := hu.1.head
  exact ⟨_, ⟨⟨fx2, fm, R2, Rm, rfl, hu.1, hm⟩, hu.2⟩, pm_C⟩
theorem il_Ti {En : String} {W9 : va_W} (h : he_T he_QTi l y wl fr lo mc ms g av ((x0, .inr (9, fx)) :: Rc) En W9) (hc : IC g x0 Sx W9) (hm : IM g m0 Sm t ((m0, .inr (10, fm)) :: Rm)) : ∃ W2, IL g x0 m0 o0 Sx Sm t fo W2 ∧ he_T he_QTi l y wl fr lo mc ms g av ([(x0, .inr (9, fx)), (m0, .inr (10, fm)), (o0, .inl (g.2 5, 1, .inr (.inl fo)))] ++ (Rc ++ Rm)) En W2 := by
  obtain ⟨fx2, R2, rfl⟩ := hc.head
  exact ⟨_, ⟨fx2, fm, R2, Rm, rfl, hc, hm⟩, he_liftTi ((m0, .inr (10, fm)) :: (o0, .inl (g.2 5, 1, .inr (.inl fo))) :: Rm) h ⟨Nat.le_refl _, Nat.le_refl _, Nat.le_refl _, Nat.le_refl _⟩ pm_C pm_C⟩
theorem il_Tj {En : String} {W9 : va_W} (h : he_T he_QTj l y wl fr lo mc ms g av ((x0, .inr (9, fx)) :: Rc) En W9) (hc : IC g x0 Sx W9) (hm : IM g m0 Sm t ((m0, .inr (10, fm)) :: Rm)) : ∃ W2, IL g x0 m0 o0 Sx Sm t fo W2 ∧ he_T he_QTj l y wl fr lo mc ms g av ([(x0, .inr (9, fx)), (m0, .inr (10, fm)), (o0, .inl (g.2 5, 1, .inr (.inl fo)))] ++ (Rc ++ Rm)) En W2 := by
  obtain ⟨fx2, R2, rfl⟩ := hc.head
  exact ⟨_, ⟨fx2, fm, R2, Rm, rfl, hc, hm⟩, he_liftTj ((m0, .inr (10, fm)) :: (o0, .inl (g.2 5, 1, .inr (.inl fo))) :: Rm) h ⟨Nat.le_refl _, Nat.le_refl _, Nat.le_refl _, Nat.le_refl _⟩ pm_C pm_C⟩
theorem il_Tv {En : String} {W9 : va_W} (h : he_T he_QTv l y wl fr lo mc ms g av ((x0, .inr (9, fx)) :: Rc) En W9) (hc : IC g x0 Sx W9) (hm : IM g m0 Sm t ((m0, .inr (10, fm)) :: Rm)) : ∃ W2, IL g x0 m0 o0 Sx Sm t fo W2 ∧ he_T he_QTv l y wl fr lo mc ms g av ([(x0, .inr (9, fx)), (m0, .inr (10, fm)), (o0, .inl (g.2 5, 1, .inr (.inl fo)))] ++ (Rc ++ Rm)) En W2 := by
  obtain ⟨fx2, R2, rfl⟩ := hc.head
  exact ⟨_, ⟨fx2, fm, R2, Rm, rfl, hc, hm⟩, he_liftTv ((m0, .inr (10, fm)) :: (o0, .inl (g.2 5, 1, .inr (.inl fo))) :: Rm) h ⟨Nat.le_refl _, Nat.le_refl _, Nat.le_refl _, Nat.le_refl _⟩ pm_C pm_C⟩
theorem il_mI {pr : Int32 → Int32 → Prop} (h : he_I l y wl fr lo mc ms g av ((m0, .inr (10, fm)) :: Rm) (fun (r : Int32) (W2 : va_W) => ∃ t2 : Int32, IM g m0 Sm2 t2 W2 ∧ pr r t2) (fun W2 => W2)) (hc : IC g x0 Sx ((x0, .inr (9, fx)) :: Rc)) : he_I l y wl fr lo mc ms g av ([(x0, .inr (9, fx)), (m0, .inr (10, fm)), (o0, .inl (g.2 5, 1, .inr (.inl fo)))] ++ (Rc ++ Rm)) (fun (r : Int32) (W2 : va_W) => ∃ t2 : Int32, IL g x0 m0 o0 Sx Sm2 t2 fo W2 ∧ pr r t2) (fun W2 => W2) := by
  refine he_liftI ((x0, .inr (9, fx)) :: (o0, .inl (g.2 5, 1, .inr (.inl fo))) :: Rc) h ⟨Nat.le_refl _, Nat.le_refl _, Nat.le_refl _, Nat.le_refl _⟩ pm_M (fun r u hu => ?_)
  obtain ⟨t2, hu, hp⟩ := hu
  obtain ⟨fm2, R2, rfl⟩ := hu.head
  exact ⟨_, ⟨t2, ⟨fx, fm2, Rc, R2, rfl, hc, hu⟩, hp⟩, pm_M⟩
theorem il_mJ {pr : Int64 → Int32 → Prop} (h : he_J l y wl fr lo mc ms g av ((m0, .inr (10, fm)) :: Rm) (fun (r : Int64) (W2 : va_W) => ∃ t2 : Int32, IM g m0 Sm2 t2 W2 ∧ pr r t2) (fun W2 => W2)) (hc : IC g x0 Sx ((x0, .inr (9, fx)) :: Rc)) : he_J l y wl fr lo mc ms g av ([(x0, .inr (9, fx)), (m0, .inr (10, fm)), (o0, .inl (g.2 5, 1, .inr (.inl fo)))] ++ (Rc ++ Rm)) (fun (r : Int64) (W2 : va_W) => ∃ t2 : Int32, IL g x0 m0 o0 Sx Sm2 t2 fo W2 ∧ pr r t2) (fun W2 => W2) := by
  refine he_liftJ ((x0, .inr (9, fx)) :: (o0, .inl (g.2 5, 1, .inr (.inl fo))) :: Rc) h ⟨Nat.le_refl _, Nat.le_refl _, Nat.le_refl _, Nat.le_refl _⟩ pm_M (fun r u hu => ?_)
  obtain ⟨t2, hu, hp⟩ := hu
  obtain ⟨fm2, R2, rfl⟩ := hu.head
  exact ⟨_, ⟨t2, ⟨fx, fm2, Rc, R2, rfl, hc, hu⟩, hp⟩, pm_M⟩
theorem il_mV {pr : Int32 → Prop} (h : he_V l y wl fr lo mc ms g av ((m0, .inr (10, fm)) :: Rm) (fun (W2 : va_W) => ∃ t2 : Int32, IM g m0 Sm2 t2 W2 ∧ pr t2) (fun W2 => W2)) (hc : IC g x0 Sx ((x0, .inr (9, fx)) :: Rc)) : he_V l y wl fr lo mc ms g av ([(x0, .inr (9, fx)), (m0, .inr (10, fm)), (o0, .inl (g.2 5, 1, .inr (.inl fo)))] ++ (Rc ++ Rm)) (fun (W2 : va_W) => ∃ t2 : Int32, IL g x0 m0 o0 Sx Sm2 t2 fo W2 ∧ pr t2) (fun W2 => W2) := by
  refine he_liftV ((x0, .inr (9, fx)) :: (o0, .inl (g.2 5, 1, .inr (.inl fo))) :: Rc) h ⟨Nat.le_refl _, Nat.le_refl _, Nat.le_refl _, Nat.le_refl _⟩ pm_M (fun u hu => ?_)
  obtain ⟨t2, hu, hp⟩ := hu
  obtain ⟨fm2, R2, rfl⟩ := hu.head
  exact ⟨_, ⟨t2, ⟨fx, fm2, Rc, R2, rfl, hc, hu⟩, hp⟩, pm_M⟩
end ILS
/-- with one more: IllegalArgumentException is no IndexOutOfBoundsException -/
def he_nc2 (U : State) : Prop := va_Nc "java/lang/IllegalArgumentException" "java/lang/IndexOutOfBoundsException" U
abbrev he_IN {S : Type} (l : Launch) (y : MethodName) (wl : List Cond) (fr lo mc ms : Nat) (g : he_G) (av : List Value) (ws : va_W) (post : Int32 → S → Prop) (w1 : S → va_W) : Prop := ∀ sz : Nat, Met l y wl (he_room fr lo mc ms) (va_Pc av (fun U => he_pre g ws sz U ∧ he_nc2 U)) (va_Qi post (fun u t => he_post g (va_A ws sz) (w1 u) t) (va_A ws sz)) mc ms (va_A ws sz)
theorem he_fbN {g : he_G} {ws : va_W} {sz : Nat} {av : List Value} : FrameBlind (va_Pc av (fun U => he_pre g ws sz U ∧ he_nc2 U)) := by
  intro a U f mk q
  obtain ⟨q0, q1, qN⟩ := q
  have h := he_fb a U f mk (⟨q0, q1⟩ : va_Pc av (he_pre g ws sz) a U)
  exact ⟨h.1, h.2, va_Nc.moved (u := U) (U := U.calling f mk a) (Vm.Alike.refl U.vm) qN⟩
section HNC
variable {p : Program} {l : Launch} {e : Env} {s : State} {H : Heap} {locs : List Loc} {g : he_G} {A : Nat → Prop} {ws wc : va_W}
theorem he_preSN (hN : he_nc2 s) (hK : va_K g.1 vwCl (he_ty g) s) (hP : va_P g.1 vwCl ws H) (hD : va_D A ws) (hS : va_S A s.heap H locs) (hA : ∀ q, s.heap.size ≤ q → A q) (hE : he_E g A s s.heap) (isC : List Nat) (hC : isC.map (fun i => ws[i]?) = wc.map some) (hnd : va_nd isC = true) {av : List Value} : PreS s H (va_Pc av (fun U => he_pre g wc H.size U ∧ he_nc2 U)) av := ⟨he_fbN, fun U hU hW => ⟨rfl, he_preX hK hP hD hS hA hE isC hC hnd U hU hW, va_Nc.moved hW.alike hN⟩⟩
end HNC
section HLN
variable {l : Launch} {g : he_G} {y : MethodName} {wl wl' : List Cond} {cc : ByteArray} {maxL fr lo mc ms : Nat} {av : List Value} {ws : va_W}
theorem he_beginHN {ret : Option FieldType} {hh : List (Nat × Nat × Nat × Nat)} (Qf : (Nat → Prop) → Array Value → State → Outcome → State → Prop) (hy : plainName y.cls = true) (hw : wl = Cond.codeWith y cc maxL ret hh :: wl') (hav : (lg_sl av).length ≤ maxL)
    (body : ∀ (p : Program) (e : Env) (s : State) (m : MethodId) (args : Array Value) (below : List Frame) (meth : Method) (c : Code) (A : Nat → Prop) (ls : Array Slot) (H : Heap) (locs : List Loc) (Q : State → Prop), Q = MQ below (Qf A) args s mc ms A → c.exceptionTable.toList = tableOf hh → he_nc2 s → he_B p s m args meth c A ls H locs g y wl cc maxL ret av ws →
      W p l e (he_room fr lo mc ms) s m args below meth c H locs 0 0 Q (F0 m 0 ls [])) (sz : Nat) : Met l y wl (he_room fr lo mc ms) (va_Pc av (fun U => he_pre g ws sz U ∧ he_nc2 U)) (Qf (va_A ws sz)) mc ms (va_A ws sz) := by
  refine MetFree.of_bodyS (code := cc) (maxLocals := maxL) (ret := ret) hy ?_ ?_
  · intro args s m h hn
    obtain ⟨m9, meth, c, hn9, h1, h2, h3, h4, -, h5, h6, -⟩ := Cond.codeWith_spec (atoms_spec (ws := wl) h _ (by rw [hw]; exact List.mem_cons_self))
    cases hn.symm.trans hn9
    exact ⟨meth, c, h1, h2, h3, h4, h5, h6⟩
  · intro p e s m args below meth c s₁ B hml hv _
    have hh0 : s₁.heap = s.heap := by rw [B.state]; rfl
    obtain ⟨rfl, ⟨hsz, hP, hK, hD0, hE⟩, hN⟩ := hv
    subst hsz
    have hD := hD0.self (sz := s.heap.size)
    have hl := lv_entry av (n := maxL) hav
    have ht := vx_table (x := y) B (atoms_spec (ws := wl) B.pre _ (by rw [hw]; exact List.mem_cons_self))
    have hk := body p e s m _ below meth c (va_A ws s.heap.size) _ _ _ _ rfl ht hN ⟨B.exec, B.bytes, B.returns, hml, findClass_of_methodNamed B.named, atoms_spec (ws := wl) B.pre, B.notSynchronized, (name_of_methodNamed B.named B.method).1, hP, hK, hD, va_S.rf, fun q h => Or.inr h, hE, hl⟩
    rw [← lg_entry_eq] at hk
    obtain ⟨t, a1, o, b1, b2, b3⟩ := hk s₁ hh0 (Stand.of_body B)
    exact ⟨t, o, a1, b1, b2, ⟨b3.1, b3.2⟩⟩
end HLN
