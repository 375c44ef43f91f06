/-! ===== an exception that a caller's table takes ===== -/
section SMK
/-- the search for a handler, one entry whose class has to be looked up: it takes the exception, or the search goes on; the tables know one entry more -/
theorem sx_look {e : Env} {S : State} {f : JFrame} {a : Addr} {z : ExceptionTableEntry} {t : List ExceptionTableEntry} {k : ClassId} {cell : Cell} (hz : covers z f.pc = true) (h0 : z.catchType ≠ 0) (hl : S.vm.ClassLinks e.platform f.method.cls z.catchType k) (hcell : S.heap[a]? = some cell) (hobj : ∀ q, cell.vm ≠ .statics q)
    (hk1 : ∃ q, S.vm.classes[cell.cls]? = some q) (hk2 : ∃ q, S.vm.classes[k]? = some q) (Q : Handler → Pre) (E : CtlPost) (d : Bool) (acts : List Action) :
    wp (findHandler.go f a (z :: t)) Q E e d acts S ↔ if S.vm.assignable cell.cls k = true then Q (.found z.handlerPc) d acts (S.setVm (S.vm.noted f.method.cls z.catchType (.cls k))) else wp (findHandler.go f a t) Q E e d acts (S.setVm (S.vm.noted f.method.cls z.catchType (.cls k))) := by
  have hal : S.vm.Alike (S.vm.noted f.method.cls z.catchType (.cls k)) := (Vm.Alike.refl S.vm).noted _ _ _
  obtain ⟨g1, g2⟩ := (resolveClass_links e.toSetting hl).op (op := VmOp.resolveClass f.method.cls z.catchType) rfl
  obtain ⟨q1, e1⟩ := hk1
  obtain ⟨q2, e2⟩ := hk2
  obtain ⟨q1', e1', -⟩ := hal.2.2 _ _ e1
  obtain ⟨q2', e2', -⟩ := hal.2.2 _ _ e2
  have hz' := hz
  simp only [covers] at hz'
  have has := hal.assignable cell.cls k
  by_cases hf : S.vm.assignable cell.cls k = true
  · rw [if_pos hf]
    rw [hf] at has
    simp [findHandler.go, hz', h0, g1, g2, hcell, hobj, e1', e2', has, VmOp.dirties, VmOp.acts]
  · rw [if_neg hf]
    have hf' : S.vm.assignable cell.cls k = false := by simpa using hf
    rw [hf'] at has
    simp [findHandler.go, hz', h0, g1, g2, hcell, hobj, e1', e2', has, VmOp.dirties, VmOp.acts]
/-- the whole search: entries that don't take it, then one that does -/
theorem sx_search {e : Env} {s : State} {f : JFrame} {a : Addr} {cell : Cell} (hobj : ∀ q, cell.vm ≠ .statics q) (hk1 : ∃ q, s.vm.classes[cell.cls]? = some q) (x : ExceptionTableEntry) (suf : List ExceptionTableEntry) (hx : covers x f.pc = true) (hx0 : x.catchType ≠ 0)
    {kx : ClassId} (hlx : s.vm.ClassLinks e.platform f.method.cls x.catchType kx) (hfx : s.vm.assignable cell.cls kx = true) :
    ∀ (pre : List ExceptionTableEntry) (S : State), s.WarmedH S.vm → S.heap[a]? = some cell → (∀ y ∈ pre, covers y f.pc = false ∨ (y.catchType ≠ 0 ∧ ∃ k, s.vm.ClassLinks e.platform f.method.cls y.catchType k ∧ s.vm.assignable cell.cls k = false)) →
      ∃ vm', s.WarmedH vm' ∧ ∀ (Q : Handler → Pre) (E : CtlPost) (d : Bool) (acts : List Action), wp (findHandler.go f a (pre ++ x :: suf)) Q E e d acts S ↔ Q (.found x.handlerPc) d acts (S.setVm vm') := by
  have step : ∀ (S : State) (z : ExceptionTableEntry) (k : ClassId), s.WarmedH S.vm → s.vm.ClassLinks e.platform f.method.cls z.catchType k → (∃ q, S.vm.classes[cell.cls]? = some q) ∧ (∃ q, S.vm.classes[k]? = some q) ∧ s.WarmedH (S.vm.noted f.method.cls z.catchType (.cls k)) := by
    intro S z k hW hl
    obtain ⟨dk, _, _, kt, hd, _, _, _, _, hkt, _, hop⟩ := hl.here
    obtain ⟨q1, e1⟩ := hk1
    obtain ⟨q1', e1', -⟩ := hW.alike.2.2 _ _ e1
    obtain ⟨q2', e2', -⟩ := hW.alike.2.2 _ _ hkt
    exact ⟨⟨q1', e1'⟩, ⟨q2', e2'⟩, hW.noted hd hop (State.rightAt_cls hl)⟩
  intro pre
  induction pre with
  | nil =>
    intro S hW hcell _
    obtain ⟨a1, a2, a3⟩ := step S x kx hW hlx
    refine ⟨_, a3, fun Q E d acts => ?_⟩
    rw [List.nil_append, sx_look hx hx0 (hW.classLinks hlx) hcell hobj a1 a2, if_pos (by rw [hW.alike.assignable]; exact hfx)]
  | cons y ys ih =>
    intro S hW hcell hp
    have hp' : ∀ z ∈ ys, covers z f.pc = false ∨ (z.catchType ≠ 0 ∧ ∃ k, s.vm.ClassLinks e.platform f.method.cls z.catchType k ∧ s.vm.assignable cell.cls k = false) := fun z hz => hp z (List.mem_cons_of_mem _ hz)
    cases hc : covers y f.pc with
    | false =>
      obtain ⟨vm', b1, b2⟩ := ih S hW hcell hp'
      exact ⟨vm', b1, fun Q E d acts => by rw [List.cons_append, W.findHandler_go_skip hc]; exact b2 Q E d acts⟩
    | true =>
      rcases hp y List.mem_cons_self with z | ⟨y0, k, hl, hno⟩
      · rw [hc] at z; cases z
      · obtain ⟨a1, a2, a3⟩ := step S y k hW hl
        obtain ⟨vm', b1, b2⟩ := ih (S.setVm (S.vm.noted f.method.cls y.catchType (.cls k))) a3 hcell hp'
        refine ⟨vm', b1, fun Q E d acts => ?_⟩
        rw [List.cons_append, sx_look hc y0 (hW.classLinks hl) hcell hobj a1 a2, if_neg (by rw [hW.alike.assignable, hno]; decide)]
        exact b2 Q E d acts
variable {p : Program} {l : Launch} {e : Env} {R : Room} {s : State} {m : MethodId} {args : Array Value} {below : List Frame} {meth : Method} {c : Code} {H : Heap} {locs : List Loc} {cells slots : Nat} {Q : State → Prop}
variable {pc : Nat} {ls : Array Slot} {rest : List Value}
/-- caught by entry x of this method's table; the entries ahead don't take it -/
theorem sx_catch {own name E : String} {ce : Cell} {q : Addr} (hown : s.vm.findClass own = some m.cls) (pre : List ExceptionTableEntry) (x : ExceptionTableEntry) (suf : List ExceptionTableEntry) (hsplit : c.exceptionTable.toList = pre ++ x :: suf)
    (hpass : ∀ z ∈ pre, covers z pc = false ∨ (z.catchType ≠ 0 ∧ ∃ nm : String, (Cond.classLink own z.catchType nm).before args s = true ∧ va_Nc E nm s)) (hx : covers x pc = true) (h0 : x.catchType ≠ 0)
    (hlink : (Cond.classLink own x.catchType name).before args s = true) (hcast : (Cond.castable E name).before args s = true) (hcell : H[q]? = some ce) (hv : ce.vm = .none) (hcl : s.vm.findClass E = some ce.cls)
    (kk : W p l e R s m args below meth c H locs cells slots Q (F0 m x.handlerPc ls [.ref q])) : vx_W p l e R s m args below meth c H locs cells slots Q (F0 m pc ls rest) q := by
  intro T hT X
  have hpl : e.platform.magicAccessors = ({} : Platform).magicAccessors := by rw [X.admits.platform]
  obtain ⟨c3, c4, hc3, hc4, hasg⟩ := Cond.castable_spec hcast
  cases Option.some.inj (hc3.symm.trans hcl)
  obtain ⟨c5, hc5, hcl5⟩ := Cond.classLink_spec hown hlink e.platform hpl
  cases Option.some.inj (hc4.symm.trans hc5)
  have hobj : ∀ k, ce.vm ≠ .statics k := fun k z => by rw [hv] at z; cases z
  have hk1 : ∃ k, s.vm.classes[ce.cls]? = some k := by obtain ⟨k9, h9, -⟩ := Vm.findClass_spec hcl; exact ⟨k9, h9⟩
  have hp : ∀ y ∈ pre, covers y (F0 m pc ls rest).pc = false ∨ (y.catchType ≠ 0 ∧ ∃ k, s.vm.ClassLinks e.platform (F0 m pc ls rest).method.cls y.catchType k ∧ s.vm.assignable ce.cls k = false) := by
    intro z hz
    rcases hpass z hz with w | ⟨hz0, nm, hl1, hn1⟩
    · exact Or.inl w
    · obtain ⟨c6, hc6, hcl6⟩ := Cond.classLink_spec hown hl1 e.platform hpl
      obtain ⟨a8, b8, h1, h2, h3⟩ := hn1
      cases Option.some.inj (h1.symm.trans hcl)
      cases Option.some.inj (h2.symm.trans hc6)
      exact Or.inr ⟨hz0, _, hcl6, h3⟩
  obtain ⟨vm', hW', hs⟩ := sx_search (e := e) (f := F0 m pc ls rest) (a := q) hobj hk1 x suf hx h0 hcl5 hasg pre ((T.setTop (F0 m pc ls rest)).pushFrame (.throwing q)) X.warmed (by show T.heap[q]? = some ce; rw [hT]; exact hcell) hp
  obtain ⟨t, a1, b1⟩ := kk (T.setVm vm') hT (X.noted hW')
  refine ⟨t, ?_, b1⟩
  obtain ⟨hgo, hw⟩ := X.here.throwing (g := F0 m pc ls rest) q
  refine Steps.head hgo hw ?_
  have hstep : (stepThrowing e ((T.setTop (F0 m pc ls rest)).pushFrame (.throwing q)) q (.java (F0 m pc ls rest) :: T.frames.tail)).Is ((((T.setTop (F0 m pc ls rest)).pushFrame (.throwing q)).setVm vm').setFrames (.java (F0 m x.handlerPc ls [.ref q]) :: T.frames.tail)) [] := by
    simp only [stepThrowing, searchFrame, vmDo]
    generalize hr : Sem.go _ e false [] _ = res
    obtain ⟨as, rfl, ha⟩ := Sem.eq_ok_of hr (a := Handler.found x.handlerPc) (s' := ((T.setTop (F0 m pc ls rest)).pushFrame (.throwing q)).setVm vm') (acts' := []) (by
      have hm : ((T.setTop (F0 m pc ls rest)).pushFrame (.throwing q)).vm.method? (F0 m pc ls rest).method = some meth := X.method'
      simp [W.findHandler_eq hm X.code, hsplit, hs])
    exact ⟨rfl, ha⟩
  rw [stepThread_throwing (frames_entered X.here.top _), hstep.1]
  obtain ⟨g₀, hfr⟩ := X.frames_eq
  have hfr' : (T.setVm vm').frames = .java g₀ :: below := hfr
  rw [State.setTop_of_frames _ hfr'] at a1
  have e1 : (((T.setTop (F0 m pc ls rest)).pushFrame (.throwing q)).setVm vm').setFrames (.java (F0 m x.handlerPc ls [.ref q]) :: T.frames.tail) = (T.setVm vm').setFrames (.java (F0 m x.handlerPc ls [.ref q]) :: below) := by
    rw [State.pushFrame, State.setTop_of_frames _ hfr, State.setFrames_setFrames, hfr]
    show ((T.setVm vm').setFrames _).setFrames _ = _
    rw [State.setFrames_setFrames]
    rfl
  rw [e1]
  exact a1
end SMK
