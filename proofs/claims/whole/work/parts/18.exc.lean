/-! EXCEPTIONS: an object of a JDK exception class is made and thrown; it leaves the method; a caller's table catches it. -/
section dz_exc1
variable {p : Program} {l : Launch} {e : Env} {R : Room} {s : State} {m₀ : MethodId} {args : Array Value} {below : List Frame} {meth : Method} {c : Code} {T : State} {locs : List Loc} {cells slots : Nat}
/-- one row of a table that covers the place: its class is looked up, and it takes the object or not -/
theorem dz_row {Q : Handler → Pre} {E : CtlPost} {d : Bool} {acts : List Action} {u : State} {f : JFrame} {a : Addr} {x : ExceptionTableEntry} {t : List ExceptionTableEntry} {cT : ClassId} {cell : Cell} (hx : covers x f.pc = true) (h0 : x.catchType ≠ 0)
    (hl : u.vm.ClassLinks e.platform f.method.cls x.catchType cT) (hcell : u.heap[a]? = some cell) (hobj : ∀ k, cell.vm ≠ .statics k)
    (hk : ∃ k, u.vm.classes[cell.cls]? = some k) (hc : ∃ k, u.vm.classes[cT]? = some k) :
    (u.vm.assignable cell.cls cT = true → (wp (findHandler.go f a (x :: t)) Q E e d acts u ↔ Q (.found x.handlerPc) d acts (u.setVm (u.vm.noted f.method.cls x.catchType (.cls cT))))) ∧
    (u.vm.assignable cell.cls cT = false → (wp (findHandler.go f a (x :: t)) Q E e d acts u ↔ wp (findHandler.go f a t) Q E e d acts (u.setVm (u.vm.noted f.method.cls x.catchType (.cls cT))))) := by
  simp only [covers] at hx
  obtain ⟨r1, r2⟩ := (resolveClass_links e.toSetting hl).op (op := VmOp.resolveClass f.method.cls x.catchType) rfl
  have al : u.vm.Alike (u.vm.noted f.method.cls x.catchType (.cls cT)) := (Vm.Alike.refl u.vm).noted _ _ _
  obtain ⟨k1, hk1⟩ := hk
  obtain ⟨k2, hk2⟩ := hc
  obtain ⟨j1, hj1, -⟩ := al.2.2 _ _ hk1
  obtain ⟨j2, hj2, -⟩ := al.2.2 _ _ hk2
  refine ⟨fun hy => ?_, fun hy => ?_⟩
  · have hy' : (u.vm.noted f.method.cls x.catchType (.cls cT)).assignable cell.cls cT = true := by rw [al.assignable]; exact hy
    simp [findHandler.go, hx, h0, r1, r2, hcell, hobj, hj1, hj2, hy', VmOp.dirties, VmOp.acts]
  · have hy' : (u.vm.noted f.method.cls x.catchType (.cls cT)).assignable cell.cls cT = false := by rw [al.assignable]; exact hy
    simp [findHandler.go, hx, h0, r1, r2, hcell, hobj, hj1, hj2, hy', VmOp.dirties, VmOp.acts]
/-- a row's class by its word -/
theorem dz_rowL (X : Stand p l e R s m₀ args below meth c T locs cells slots) {own nm : String} (hown : s.vm.findClass own = some m₀.cls) {x : ExceptionTableEntry} (hlink : (Cond.classLink own x.catchType nm).before args s = true) {vm' : Vm} (hW : s.WarmedH vm') :
    ∃ cT, s.vm.findClass nm = some cT ∧ vm'.ClassLinks e.platform m₀.cls x.catchType cT ∧ (∃ k, vm'.classes[cT]? = some k) ∧ s.WarmedH (vm'.noted m₀.cls x.catchType (.cls cT)) := by
  have hpl : e.platform.magicAccessors = ({} : Platform).magicAccessors := by rw [X.admits.platform]
  obtain ⟨cT, h1, h2⟩ := Cond.classLink_spec hown hlink e.platform hpl
  obtain ⟨dk, _, _, kt, hd, _, _, _, _, hkt, _, hopen⟩ := h2.here
  obtain ⟨kt', hkt', -⟩ := hW.alike.2.2 _ _ hkt
  exact ⟨cT, h1, hW.classLinks h2, ⟨kt', hkt'⟩, hW.noted hd hopen (State.rightAt_cls h2)⟩
/-- caught by the row x, behind rows that don't take it -/
theorem dz_caught (X : Stand p l e R s m₀ args below meth c T locs cells slots) (a : Addr) {g : JFrame} (hg : g.method = m₀) {cell : Cell} (hcell : T.heap[a]? = some cell) (hobj : cell.vm = .none) {E own : String} (hE : s.vm.findClass E = some cell.cls) (hown : s.vm.findClass own = some m₀.cls)
    (pre : List ExceptionTableEntry) (x : ExceptionTableEntry) (suf : List ExceptionTableEntry) (hsplit : c.exceptionTable.toList = pre ++ x :: suf)
    (hpass : ∀ z ∈ pre, covers z g.pc = true ∧ z.catchType ≠ 0 ∧ ∃ nm : String, (Cond.classLink own z.catchType nm).before args s = true ∧ va_Nc E nm s)
    (hx : covers x g.pc = true) (h0 : x.catchType ≠ 0) {nm : String} (hlink : (Cond.classLink own x.catchType nm).before args s = true) (hcast : (Cond.castable E nm).before args s = true) :
    ∃ vm', Stand p l e R s m₀ args below meth c (T.setVm vm') locs cells slots ∧
      ∀ target, Steps p.tables e below ((T.setVm vm').setTop { g with pc := x.handlerPc, stack := [.ref a] }) target → Steps p.tables e below ((T.setTop g).pushFrame (.throwing a)) target := by
  subst hg
  have hns : ∀ k, cell.vm ≠ .statics k := fun k h => by rw [hobj] at h; cases h
  obtain ⟨kE, hkE, -⟩ := Vm.findClass_spec hE
  obtain ⟨cA, cB, hA, hB, hasg⟩ := Cond.castable_spec hcast
  cases Option.some.inj (hA.symm.trans hE)
  have key : ∀ (ps : List ExceptionTableEntry) (u : State), s.WarmedH u.vm → u.heap[a]? = some cell → (∀ z ∈ ps, covers z g.pc = true ∧ z.catchType ≠ 0 ∧ ∃ nm : String, (Cond.classLink own z.catchType nm).before args s = true ∧ va_Nc E nm s) →
      ∃ vm', s.WarmedH vm' ∧ ∀ (Q : Handler → Pre) (E9 : CtlPost) (d : Bool) (acts : List Action), wp (findHandler.go g a (ps ++ x :: suf)) Q E9 e d acts u ↔ Q (.found x.handlerPc) d acts (u.setVm vm') := by
    intro ps
    induction ps with
    | nil =>
      intro u hW hc9 _
      obtain ⟨cT, q1, q2, q3, q4⟩ := dz_rowL X hown hlink hW
      cases Option.some.inj (hB.symm.trans q1)
      obtain ⟨kE', hkE', -⟩ := hW.alike.2.2 _ _ hkE
      exact ⟨_, q4, fun Q E9 d acts => (dz_row hx h0 q2 hc9 hns ⟨kE', hkE'⟩ q3).1 (by rw [hW.alike.assignable]; exact hasg)⟩
    | cons z zs ih =>
      intro u hW hc9 hp
      obtain ⟨z1, z2, nz, z3, z4⟩ := hp z List.mem_cons_self
      obtain ⟨cT, q1, q2, q3, q4⟩ := dz_rowL X hown z3 hW
      obtain ⟨kE', hkE', -⟩ := hW.alike.2.2 _ _ hkE
      have hno : s.vm.assignable cell.cls cT = false := by
        obtain ⟨a8, b8, n1, n2, n3⟩ := z4
        cases Option.some.inj (n1.symm.trans hE)
        cases Option.some.inj (n2.symm.trans q1)
        exact n3
      obtain ⟨vm', w1, w2⟩ := ih (u.setVm (u.vm.noted g.method.cls z.catchType (.cls cT))) q4 hc9 (fun y hy => hp y (List.mem_cons_of_mem _ hy))
      refine ⟨vm', w1, fun Q E9 d acts => ?_⟩
      rw [List.cons_append, (dz_row z1 z2 q2 hc9 hns ⟨kE', hkE'⟩ q3).2 (by rw [hW.alike.assignable]; exact hno)]
      exact w2 Q E9 d acts
  obtain ⟨vm', hW', hq⟩ := key pre ((T.setTop g).pushFrame (.throwing a)) (by rw [throwing_vm]; exact X.warmed) (by rw [throwing_heap]; exact hcell) hpass
  refine ⟨vm', X.noted hW', fun target hrest => ?_⟩
  have hfind : ∀ (Q : Handler → Pre) (E9 : CtlPost) (d : Bool) (acts : List Action), wp (findHandler g a) Q E9 e d acts ((T.setTop g).pushFrame (.throwing a)) ↔ Q (.found x.handlerPc) d acts (((T.setTop g).pushFrame (.throwing a)).setVm vm') := by
    intro Q E9 d acts
    rw [Jvm.W.findHandler_eq (meth := meth) (code := c) (by rw [throwing_vm]; exact X.method') X.code, hsplit]
    exact hq Q E9 d acts
  obtain ⟨hgo, hw⟩ := X.here.throwing a
  refine Steps.head hgo hw ?_
  have hstep : (stepThrowing e ((T.setTop g).pushFrame (.throwing a)) a (.java g :: T.frames.tail)).Is ((((T.setTop g).pushFrame (.throwing a)).setVm vm').setFrames (.java { g with pc := x.handlerPc, stack := [.ref a] } :: T.frames.tail)) [] := by
    simp only [stepThrowing, searchFrame, vmDo]
    generalize hr : Sem.go _ e false [] ((T.setTop g).pushFrame (.throwing a)) = res
    obtain ⟨as, rfl, ha⟩ := Sem.eq_ok_of hr (a := Handler.found x.handlerPc) (s' := ((T.setTop g).pushFrame (.throwing a)).setVm vm') (acts' := []) (by simp [hfind _ _ _ _])
    exact ⟨rfl, ha⟩
  rw [stepThread_throwing (frames_entered X.here.top _), hstep.1]
  obtain ⟨g₁, hg⟩ := Option.isSome_iff_exists.mp X.here.top
  obtain ⟨r, hr⟩ := State.topJava?_eq_some.mp hg
  have hr' : (T.setVm vm').frames = .java g₁ :: r := hr
  rw [State.setTop_of_frames _ hr'] at hrest
  have e1 : ∀ (u : State) (F G : List Frame), ((u.setFrames F).setVm vm').setFrames G = (u.setVm vm').setFrames G := by
    intro u F G
    have h1 : (u.setFrames F).setVm vm' = (u.setVm vm').setFrames F := rfl
    rw [h1, State.setFrames_setFrames]
  rw [hr, List.tail_cons, State.pushFrame, e1, State.setTop_of_frames _ hr, e1]
  exact hrest
end dz_exc1
