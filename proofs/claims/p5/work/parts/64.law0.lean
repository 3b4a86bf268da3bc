/-! THE CLAIM OUT OF ONE WALK OF THE LAW'S BODY. Your part is whole_start (and what it stands on); all else here is the same for every law, but numbers. -/
def R_law : String := "HiredEnemyLaw"
def lw_P (b : Addr) (xs : List Int32) (args : Array Value) (s : State) : Prop := args = #[.ref b] ∧ s.IntsAt b xs ∧ xs.length ≤ 3072 ∧ (Jvm.Cond.and given_1 narrow_1).before args s = true
def lw_Q (_ : Array Value) (s : State) (o : Outcome) (t : State) : Prop := o = .returned (some (.int 1)) ∧ Framed s o t [] 601024 7293034
def lw_Z (below : List Frame) (a : Array Value) (s : State) : State → Prop := fun t => ∃ o, t.status = .running ∧ Ended t below o ∧ lw_Q a s o t
/-- the law's own end, with 1 on the stack, nothing written that was there before, its room as the claim has it -/
theorem lw_ret {p : Program} {l : Launch} {e : Env} {s : State} {m : MethodId} {below : List Frame} {meth : Method} {c : Code} {b : Nat} (hx : p.tables.exec = Jvm.exec) (hb : c.code = code) (hr : meth.sig.returnType = ret) (hlocks : meth.locks = false) {pc : Nat} {H : Heap} {ls : Array Slot} (hdg : decode code pc = .ok (.ireturn, 1)) : W p l e room_1 s m #[Value.ref b] below meth c H [] 601024 7293034 (lw_Z below #[Value.ref b] s) (F0 m pc ls [.int 1]) := by
  intro T hT X
  obtain ⟨fs, hret, hrun, hended, hW, hframe⟩ := X.leave (v := some (.int 1)) (hlocks := hlocks) (fun h => by rw [hr] at h; cases h)
  have hmeth' : T.vm.method? m = some meth := X.method'
  refine ⟨T.setFrames fs, ?_, .returned (some (.int 1)), hrun, hended, rfl, ⟨_, rfl⟩, hW, hframe⟩
  jvm_step X.here [X.here.top, hx, hb, hdg, hmeth', hr, ret, narrow_b1]
  (try refine ⟨rfl, ?_⟩); (try refine ⟨rfl, ?_⟩)
  first | (intro acts; rw [hret _ acts rfl rfl rfl]) | rw [hret _ _ rfl rfl rfl]
  exact Steps.refl _
/-- what the law may write: what is new -/
def lw_A (s : State) : Nat → Prop := fun q => s.heap.size ≤ q
/-- what holds all through the law's body -/
def lw_C (p : Program) (s : State) (m : MethodId) (meth : Method) (c : Code) (b Ln : Nat) (xs : Nat → Int32) (g : he_G) : Prop :=
  p.tables.exec = Jvm.exec ∧ c.code = code ∧ meth.sig.returnType = ret ∧ c.maxLocals = 8 ∧ s.vm.findClass RL = some m.cls ∧ (∀ w ∈ wsL_law, w.before #[Value.ref b] s = true) ∧ va_X b Ln xs s s.heap ∧ b < s.heap.size ∧ meth.locks = false ∧ va_K g.1 vwCl (he_ty g) s ∧ he_E g (lw_A s) s s.heap ∧ (∀ q, s.heap.size ≤ q → lw_A s q) ∧ ¬ lw_A s b ∧ he_nc2 s
/-! the law's cases -/
theorem sp0_feed (S : AbS) (v0 : Int32) (v1 : Int32) (v2 : Int32) (v3 : Int32) (v4 : Int32) : (sp_feed S v0 v1 v2 v3 v4).1 = 0 := by unfold sp_feed; (repeat' split) <;> rfl
theorem sp0_fault (S : AbS) : (sp_fault S).1 = 0 := by unfold sp_fault; (repeat' split) <;> rfl
theorem sp0_most (S : AbS) : (sp_most S).1 = 0 := by unfold sp_most; (repeat' split) <;> rfl
theorem sp0_image (S : AbS) : (sp_image S).1 = 0 := by unfold sp_image; (repeat' split) <;> rfl
theorem sp0_restore (S : AbS) : (sp_restore S).1 = 0 := by unfold sp_restore; (repeat' split) <;> rfl
theorem sp0_status (S : AbS) (v0 : Int32) : (sp_status S v0).1 = 0 := by unfold sp_status; (repeat' split) <;> rfl
theorem sp0_count (S : AbS) (v0 : Int32) : (sp_count S v0).1 = 0 := by unfold sp_count; (repeat' split) <;> rfl
