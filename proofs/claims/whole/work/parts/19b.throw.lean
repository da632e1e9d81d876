/-! THROWING: the walk from 'new X' to the method's end; contracts of methods that return or throw; their calls. -/
theorem dz_nw_use {w : Cond} (hw : w ∈ dz_NW) {U : State} {args : Array Value} (hs : va_Nw w U) : w.before args U = true := by
  have h2 := (List.mem_filter.mp hw).2
  unfold dz_ns at h2
  split at h2
  · exact va_Nw.use rfl hs
  · exact va_Nw.use rfl hs
  · exact va_Nw.use rfl hs
  · exact va_Nw.use rfl hs
  · cases h2
section dz_exc2
variable {p : Program} {l : Launch} {e : Env} {R : Room} {s : State} {m : MethodId} {args : Array Value} {below : List Frame} {meth : Method} {c : Code} {T : State} {locs : List Loc} {cells slots : Nat}
/-- the method as if it were called here: the heap of now is the heap of its start -/
abbrev dz_here (s T : State) (m : MethodId) (args : Array Value) (below : List Frame) : State := (T.setVm s.vm).setFrames (.invoking m args :: below)
theorem dz_rebase (X : Stand p l e R s m args below meth c T locs cells slots) {R' : Room} (r1 : R'.frames ≤ R.frames) (r2 : R'.locals ≤ R.locals) (r3 : cells + R'.cells ≤ R.cells) (r4 : slots + R'.slots ≤ R.slots) :
    Stand p l e R' (dz_here s T m args below) m args below meth c T [] 0 0 := by
  have top : (T.setVm s.vm).topJava?.isSome := X.here.top
  have hF : (dz_here s T m args below).frames = .invoking m args :: below := State.frames_setFrames _ (State.cur_lt_of_top top)
  obtain ⟨g0, hg0⟩ := Option.isSome_iff_exists.mp top
  obtain ⟨r, hr⟩ := State.topJava?_eq_some.mp hg0
  obtain ⟨th, hth, -⟩ := State.frames_cons hr
  have k1 : e.platform.stackLimits (T.setVm s.vm).me = e.platform.stackLimits s.me := X.limits
  have k2 : (T.setVm s.vm).me.stackBytes = s.me.stackBytes := X.bytes
  have k3 : (dz_here s T m args below).localsInUse = s.localsInUse := by
    rw [State.localsInUse_invoking hF (meth := meth) (c := c) X.method X.code, State.localsInUse_invoking X.frames X.method X.code]
  have k4 := X.heapSize
  have k5 := X.used
  have k6 : T.heap.toList.drop T.heap.size = [] := List.drop_eq_nil_of_le (Nat.le_of_eq Array.length_toList)
  refine ⟨X.admits, X.cas, X.clock, hF, ?_, X.hears, X.method, X.code, X.here, X.tail, X.warmed, by rw [State.stackLimits_setFrames]; rfl, by rw [State.stackBytes_setFrames]; rfl, ?_⟩
  · have h := X.room
    simp only [State.hasRoom, Bool.and_eq_true, decide_eq_true_eq] at h ⊢
    obtain ⟨⟨⟨⟨h1, h2, h3, h4, h5, h6⟩, h7⟩, h8⟩, h9⟩ := h
    rw [X.frames, List.length_cons] at h2 h3
    simp only [hF, k3, List.length_cons, State.stackLimits_setFrames, State.stackBytes_setFrames, k1, k2]
    refine ⟨⟨⟨⟨by omega, by omega, by omega, by omega, by omega, h6⟩, ?_⟩, ?_⟩, X.book⟩
    · show T.heap.size + R'.cells ≤ e.platform.maxCells
      omega
    · show T.slotsUsed + R'.slots ≤ e.platform.maxSlots
      omega
  · refine ⟨?_, Nat.le_refl _, Nat.le_refl _, ?_, ?_, fun a c9 h9 => ⟨c9, h9, rfl, rfl, fun _ _ => rfl⟩⟩
    · show T.setVm s.vm = { (dz_here s T m args below).setFrames (T.setVm s.vm).frames with heap := T.heap, slotsUsed := T.slotsUsed }
      rw [State.setFrames_setFrames, State.setFrames_self hth]
      rfl
    · show T.slotsUsed = T.slotsUsed + ((T.heap.toList.drop T.heap.size).map (·.slots.size)).sum
      rw [k6]; rfl
    · show ((T.heap.toList.drop T.heap.size).map (·.slots.size)).sum ≤ 0
      rw [k6]; exact Nat.le_refl _
theorem dz_unframe {u v : State} {F : List Frame} {L : List Loc} {k n : Nat} (h : (u.setFrames F).sameButNew v L k n) : u.sameButNew v L k n := by
  obtain ⟨h1, h2⟩ := h
  refine ⟨?_, h2⟩
  rw [State.setFrames_setFrames] at h1
  exact h1
theorem dz_kept {u U : State} {k n : Nat} (h : u.sameButNew ({ U with vm := u.vm } : State) [] k n) : u.heap.size ≤ U.heap.size ∧ U.heap.size ≤ u.heap.size + k ∧ ∀ q : Nat, q < u.heap.size → U.heap[q]? = u.heap[q]? := by
  obtain ⟨-, h2, h3, -, -, h6⟩ := h
  refine ⟨h2, h3, fun q hq => ?_⟩
  obtain ⟨c9, e1, e2, e3, e4⟩ := h6 q _ (Array.getElem?_eq_getElem hq)
  have hs : c9.slots = (u.heap[q]).slots := Array.ext_getElem? fun i => e4 i (fun hm => by cases hm)
  have h9 : c9 = u.heap[q] := by rw [hs] at e2; exact e2
  have e5 : U.heap[q]? = some c9 := e1
  rw [e5, h9, Array.getElem?_eq_getElem hq]
end dz_exc2
abbrev dz_Px : Type := String → Nat → dz_Sk → dz_Rf → dz_Hp → Prop
/-- a method's end: it has returned, or it has thrown an object of class E -/
def dz_QX (D : va_G) (Dt : Nat → ClassId) (sk : dz_Sk) (sz : Nat) (post : dz_Po) (xp : dz_Px) (mc ms : Nat) : Array Value → State → Outcome → State → Prop := fun a st oc t =>
  (dz_Q D Dt sk sz post a st oc t ∧ ∃ L, FrameEnd st oc t L mc ms ∧ ∀ q ∈ L, dz_A sk sz q.base) ∨
  ∃ (x : Addr) (E : String) (ce : Cell) (L : List Loc) (sz' : Nat) (sk' : dz_Sk) (rf' : dz_Rf) (I' : dz_Hp), oc = .threw x ∧ t.heap[x]? = some ce ∧ ce.vm = .none ∧ st.vm.findClass E = some ce.cls ∧ st.WarmedH t.vm ∧ st.sameButNew ({ t with vm := st.vm } : State) L mc ms ∧ (∀ z ∈ L, dz_A sk sz z.base) ∧
    xp E sz' sk' rf' I' ∧ t.heap.size = sz' ∧ dz_W D Dt sk' rf' I' t.heap ∧ (∀ q y, sk' q = some y → dz_A sk sz q) ∧ va_F (dz_A sk sz) st t
def dz_CX (l : Launch) (D : va_G) (Dt : Nat → ClassId) (y : MethodName) (cc : ByteArray) (nL : Nat) (ret : Option FieldType) (d mc ms : Nat) (av : List Value) (sz : Nat) (sk : dz_Sk) (rf : dz_Rf) (I : dz_Hp) (post : dz_Po) (xp : dz_Px) : Prop :=
  MetFree l y (headSpec (.code y cc nL ret :: dz_GW) (dz_rm d mc ms)) (va_Pc av (fun U => U.heap.size = sz ∧ dz_W D Dt sk rf I U.heap ∧ dz_K D Dt (dz_A sk sz) U)) (fun _ _ _ _ _ => True) (dz_QX D Dt sk sz post xp mc ms)
/-- what the end of a walk of such a method is -/
def dz_MX (below : List Frame) (D : va_G) (Dt : Nat → ClassId) (sk : dz_Sk) (sz : Nat) (post : dz_Po) (xp : dz_Px) (a : Array Value) (s : State) (mc ms : Nat) : State → Prop := fun t =>
  ∃ o, t.status = .running ∧ Ended t below o ∧ dz_QX D Dt sk sz post xp mc ms a s o t
/-- the same ambient with another end -/
def dz_qQ (κ : dz_Kx) (Q' : State → Prop) : dz_Kx := match κ with
  | (p, l, e, R, s, m, args, below, meth, c, _, D, Dt, A, nL) => (p, l, e, R, s, m, args, below, meth, c, Q', D, Dt, A, nL)
def dz_Rx (κ : dz_Kx) (mc ms : Nat) (sk : dz_Sk) (sz : Nat) (post : dz_Po) (xp : dz_Px) (ret : Option FieldType) : Prop := match κ with
  | (_, l, _, _, s, _, args, below, meth, c, Q, D, Dt, A, _) => Q = dz_MX below D Dt sk sz post xp args s mc ms ∧ A = dz_A sk sz ∧ meth.sig.returnType = ret ∧ c.exceptionTable.isEmpty = true ∧ l.stackTraces = false
theorem dz_enterX {l : Launch} (hl : l.stackTraces = false) {D : va_G} {Dt : Nat → ClassId} {y : MethodName} {cc : ByteArray} {nL : Nat} {ret : Option FieldType} {d mc ms : Nat} {av : List Value} {sz : Nat} {sk : dz_Sk} {rf : dz_Rf} {I : dz_Hp} {post : dz_Po} {xp : dz_Px} (own : String) (hy : plainName y.cls = true) (ho : y.cls = own) (hlen : (lg_sl av).length ≤ nL) (hcat : ∀ q, q ∈ lv_args 0 av → q.2.category = 1)
    (h : ∀ κ : dz_Kx, dz_Am κ cc own → dz_Dd κ l D Dt nL → dz_Rx κ mc ms sk sz post xp ret → dz_Rm κ d mc ms → dz_V κ 0 0 sz sk rf I 0 (lv_args 0 av) []) : dz_CX l D Dt y cc nL ret d mc ms av sz sk rf I post xp := by
  refine MetFree.of_bodyS (code := cc) (maxLocals := nL) (ret := ret) hy ?_ ?_
  · intro args s m h9 hn
    obtain ⟨meth, c, h1, h2, h3, h4, h5, h6, -, -⟩ := Cond.code_spec hn (atoms_spec (ws := .code y cc nL ret :: dz_GW) h9 _ List.mem_cons_self)
    exact ⟨meth, c, h1, h2, h3, h4, h5, h6⟩
  · intro p e s m args below meth c s₁ B hml hP _
    obtain ⟨rfl, hsz, hW, hK⟩ := hP
    have hts := atoms_spec (ws := .code y cc nL ret :: dz_GW) B.pre
    have hown : s.vm.findClass y.cls = some m.cls := findClass_of_methodNamed B.named
    rw [ho] at hown
    have hh0 : s₁.heap = s.heap := by rw [B.state]; rfl
    have hl9 := lv_entry av (n := nL) hlen
    have hno : c.exceptionTable.isEmpty = true := B.noHandlers (hts _ List.mem_cons_self)
    have K : W p l e (headSpec (.code y cc nL ret :: dz_GW) (dz_rm d mc ms)).room s m av.toArray below meth c s.heap [] 0 0 (dz_MX below D Dt sk sz post xp av.toArray s mc ms) (entryFrame m av.toArray nL) := by
      rw [lg_entry_eq]
      exact h (p, l, e, (headSpec (.code y cc nL ret :: dz_GW) (dz_rm d mc ms)).room, s, m, av.toArray, below, meth, c, dz_MX below D Dt sk sz post xp av.toArray s mc ms, D, Dt, dz_A sk sz, nL)
        ⟨B.exec, B.bytes, hml, hown, fun w hw => hts w (List.mem_cons_of_mem _ hw), hK, fun q hq => Or.inr (by omega), B.notSynchronized, dz_nonst hsz hW⟩ ⟨rfl, rfl, rfl, rfl⟩ ⟨rfl, rfl, B.returns, hno, hl⟩ ⟨Nat.le_refl _, Nat.le_refl _, Nat.le_refl _, Nat.le_refl _⟩
        s.heap [] _ hsz hW (fun q x hx => Or.inl ⟨x, hx⟩) va_S.rf hcat hl9
    obtain ⟨t, a1, o, b1, b2, b3⟩ := K s₁ hh0 (Stand.of_body B)
    exact ⟨t, o, a1, b1, b2, b3⟩
section dz_exc3
variable {κ : dz_Kx} {cc : ByteArray} {own : String} {cells slots sz : Nat} {sk : dz_Sk} {rf : dz_Rf} {I : dz_Hp} {pc : Nat} {ls : List (Nat × Value)} {st : List Value}
/-- a return in a method that may throw -/
theorem dz_retX {mc ms : Nat} {sk0 : dz_Sk} {sz0 : Nat} {post : dz_Po} {xp : dz_Px} {ret : Option FieldType} (rx : dz_Rx κ mc ms sk0 sz0 post xp ret) (am : dz_Am κ cc own)
    (k : ∀ κ' : dz_Kx, dz_Am κ' cc own → dz_Rt κ' mc ms sk0 sz0 post ret → dz_V κ' cells slots sz sk rf I pc ls st) : dz_V κ cells slots sz sk rf I pc ls st := by
  obtain ⟨p, l, e, R, s, m, args, below, meth, c, Q, D, Dt, A, nL⟩ := κ
  obtain ⟨r1, r2, r3, -, -⟩ := rx
  have h := k (p, l, e, R, s, m, args, below, meth, c, MQ below (dz_Q D Dt sk0 sz0 post) args s mc ms (dz_A sk0 sz0), D, Dt, A, nL) am ⟨rfl, r2, r3⟩
  intro H locs la hz hW hsA hS hc hl
  have h2 := h H locs la hz hW hsA hS hc hl
  intro T hT X
  obtain ⟨t, a1, o, b1, b2, b3, b4⟩ := h2 T hT X
  exact ⟨t, a1, by rw [r1]; exact ⟨o, b1, b2, Or.inl ⟨b3, b4⟩⟩⟩
end dz_exc3
