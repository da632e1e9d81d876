/-! A call of a method that may throw, in a method whose table catches; methods with a table, and their calls. -/
def dz_s (κ : dz_Kx) : State := κ.2.2.2.2.1
def dz_Tb (κ : dz_Kx) (hh : List (Nat × Nat × Nat × Nat)) : Prop := match κ with
  | (_, _, _, _, _, _, _, _, _, c, _, _, _, _, _) => c.exceptionTable.toList.map (fun h => (h.startPc, h.endPc, h.handlerPc, h.catchType)) = hh
/-- how a table's rows take an object of class E thrown at pc -/
def dz_Hx (s : State) (own : String) (hh : List (Nat × Nat × Nat × Nat)) (pc : Nat) (E : String) (hpc : Nat) : Prop :=
  ∃ (pre : List (Nat × Nat × Nat × Nat)) (row : Nat × Nat × Nat × Nat) (suf : List (Nat × Nat × Nat × Nat)), hh = pre ++ row :: suf ∧ (∀ z ∈ pre, z.1 ≤ pc ∧ pc < z.2.1 ∧ z.2.2.2 ≠ 0 ∧ ∃ nm, Cond.classLink own z.2.2.2 nm ∈ dz_GW ∧ va_Nc E nm s) ∧
    row.1 ≤ pc ∧ pc < row.2.1 ∧ row.2.2.2 ≠ 0 ∧ (∃ nm, Cond.classLink own row.2.2.2 nm ∈ dz_GW ∧ Cond.castable E nm ∈ dz_NW) ∧ row.2.2.1 = hpc
section dz_exc5
variable {κ : dz_Kx} {cc : ByteArray} {own : String} {cells slots sz : Nat} {sk : dz_Sk} {rf : dz_Rf} {I : dz_Hp} {pc : Nat} {ls : List (Nat × Value)}
variable {l : Launch} {D : va_G} {Dt : Nat → ClassId} {y : MethodName} {bc : ByteArray} {nL nL0 d d0 m0 s0 mc ms n index : Nat} {ret : Option FieldType} {post : dz_Po} {xp : dz_Px} {As rest : List Value} {a : Nat} {hh : List (Nat × Nat × Nat × Nat)}
set_option maxHeartbeats 1000000 in
theorem dz_callX (am : dz_Am κ cc own) (hDd : dz_Dd κ l D Dt nL0) (hR : dz_Rm κ d0 m0 s0) (tb : dz_Tb κ hh) (hg : dz_Cg own index y bc nL ret n 0) (hC : dz_CX l D Dt y bc nL ret d mc ms (.ref a :: As) sz sk rf I post xp) (hd0 : d + 1 ≤ d0) (hcm : cells + mc ≤ m0) (hsm : slots + ms ≤ s0) {ci : Nat} (hq : sk a = some (.inr ci)) {r : vw_C} (hci : vwCl[ci]? = some r) (hrc : r.1 = y.cls) (hn : As.length = n) {st0 : List Value} (hst0 : st0 = As.reverse ++ .ref a :: rest) (hst : (rest.map fun v => v.category).sum ≤ 8) (hd : decode cc pc = .ok (.invokevirtual index, 3))
    (kk : ∀ v sz' sk' rf' I', post v sz' sk' rf' I' → dz_V κ (cells + mc) (slots + ms) sz' sk' rf' I' (pc + 3) ls (v.toList ++ rest))
    (kx : ∀ E x sz' sk' rf' I', xp E sz' sk' rf' I' → ∃ hpc, dz_Hx (dz_s κ) own hh pc E hpc ∧ dz_V κ (cells + mc) (slots + ms) sz' sk' rf' I' hpc ls [.ref x]) : dz_V κ cells slots sz sk rf I pc ls st0 := by
  obtain ⟨p, l', e, R, s, m, args, below, meth, c, Q, D', Dt', A, nL'⟩ := κ
  obtain ⟨hx, hb, hml, hown, hts, hK, hA, hlk, hns⟩ := am
  obtain ⟨rfl, rfl, rfl, rfl⟩ := hDd
  obtain ⟨r1, r2, r3, r4⟩ := hR
  obtain ⟨g1, g2, g3, g4, g5, g6, g7⟩ := hg
  intro H locs la hz hW hsA hS hc hl
  have hsub : ∀ q, dz_A sk sz q → A q := fun q hq => by
    rcases hq with ⟨x, hx⟩ | hq
    · exact hsA q x hx
    · exact hA q (by have := hS.1; omega)
  obtain ⟨hbl, hpc⟩ := dz_pre (As := .ref a :: As) hA hz hsA hS hK hW
  obtain ⟨cellB, b1, b2, b3⟩ := va_recv hK.1 (hW.one hq) hci (q0 := 0) (a := a) rfl
  rw [hrc] at b3
  have hy : y.cls ≠ "java/lang/invoke/MethodHandle" ∧ y.cls ≠ "java/lang/invoke/VarHandle" := ⟨g5.1, g5.2.1⟩
  have hlen : ∀ sig, parseMethodDescriptor y.desc = some sig → (As : List Value).length = sig.parameters.length := by
    intro sig h
    have h2 := g5.2.2
    rw [h] at h2
    rw [hn]
    exact (Option.some.inj h2).symm
  intro T hT X
  obtain ⟨mk, methM, hnamed, hmethM, hstM, habM⟩ := Cond.instanceMethod_spec (hts _ g6)
  obtain ⟨methM', cM, hmethM', hcM, -, hlM, -, -, -, hsigM⟩ := Cond.code_spec hnamed (hts _ g2)
  cases hmethM.symm.trans hmethM'
  obtain ⟨c2, rr2, mm2, q1, q2, q3, q4, kP, hkP, hkPi⟩ := Cond.selects_spec (hts _ g7)
  cases b3.symm.trans q1
  cases (State.methodFound?_of_named hnamed hy).symm.trans q2
  cases hnamed.symm.trans q3
  have hselP : selectMethod e.platform s.vm cellB.cls mk = .method mk := by rw [Launch.admits_selectMethod X.admits]; exact q4
  have hcB : T.heap[a]? = some cellB := by rw [hT]; exact b1
  obtain ⟨vm₁, X₁, hstep₁⟩ : ∃ vm₁, Stand p l' e R s m args below meth c (T.setVm vm₁) locs cells slots ∧ ∀ target, (∀ acts, Steps p.tables e below (doInvoke e ((T.setVm vm₁).setTop (F0 m pc la rest)) acts mk (Value.ref a :: As).toArray).1 target) → Steps p.tables e below (T.setTop (F0 m pc la st0)) target := by
    rcases g1 with g1 | ⟨host, g1⟩
    · obtain ⟨vm₁, x1, x2⟩ := X.invokevirtual hx hown (hts _ g1) hnamed hmethM hstM hkP hkPi hy (a := a) (cell := cellB) hcB (fun z h => by rw [h] at b2; cases b2) hselP hmethM habM hkP hkPi (g := F0 m pc la st0) rfl (argsL := As) (rest := rest) (hlen _ hsigM) hst0 (by rw [hb]; exact hd)
      exact ⟨vm₁, x1, fun target h => x2 target h⟩
    · obtain ⟨vm₁, x1, x2⟩ := X.invokevirtualNest hx hown (va_Nw.use rfl (hK.2.1 _ g1)) hnamed hmethM hstM hkP hkPi hy (a := a) (cell := cellB) hcB (fun z h => by rw [h] at b2; cases b2) hselP hmethM habM hkP hkPi (g := F0 m pc la st0) rfl (argsL := As) (rest := rest) (hlen _ hsigM) hst0 (by rw [hb]; exact hd)
      exact ⟨vm₁, x1, fun target h => x2 target h⟩
  have hnU : (T.setVm vm₁).methodNamed? y = some mk := X₁.named hnamed
  have hwU : ∀ w ∈ dz_GW, w.before (Value.ref a :: As).toArray (T.setVm vm₁) = true := fun w hw => word_at (s := s) (U := T.setVm vm₁) X₁.warmed (dz_good w hw) (hts w hw)
  obtain ⟨methY, cY, hmY, hcY, -, hlY, -, -, -, -⟩ := Cond.code_spec hnU (hwU _ g2)
  obtain ⟨kY, hkY, -⟩ := className_of_methodNamed hnU
  have hinitY : kY.init = .initialized := Cond.initialized_spec (findClass_of_methodNamed hnU) hkY (hwU _ g3)
  have hdg : decode c.code (F0 m pc la rest).pc = .ok (.invokevirtual index, 3) := by rw [hb]; exact hd
  have hroom : (dz_rm d mc ms).frames + 1 ≤ R.frames ∧ 8 + (nL + 11) + (dz_rm d mc ms).locals ≤ R.locals := by
    simp only [dz_rm]; omega
  have happ : (headSpec (.code y bc nL ret :: dz_GW) (dz_rm d mc ms)).appliesLoose y e.platform ((T.setVm vm₁).calling (F0 m pc la rest) mk (Value.ref a :: As).toArray) = true :=
    Spec.appliesLoose_calling (g := F0 m pc la rest) X₁.here hdg hnU hkY hinitY
      (X₁.room_calling (g := F0 m pc la rest) (R' := dz_rm d mc ms) (by rw [hml]; exact hl.1) hmY hcY hroom.1 (by rw [hlY]; show 2 * 0 + (rest.map fun v => v.category).sum + (nL + 11) + (dz_rm d mc ms).locals ≤ R.locals; have := hroom.2; omega) (by show cells + mc ≤ R.cells; omega) (by show slots + ms ≤ R.slots; omega))
      (atoms_intro fun w hw => by
        rcases List.mem_cons.mp hw with rfl | hw
        · exact hwU _ g2
        · exact hwU _ hw)
  have hfr : ((T.setVm vm₁).setTop (F0 m pc la rest)).frames = [.java (F0 m pc la rest)] ++ below := by rw [State.frames_setTop' _ X₁.here.top, X₁.tail]; rfl
  have hPre := hbl _ _ (F0 m pc la rest) mk (hpc (T.setVm vm₁) hT X₁.warmed)
  obtain ⟨o, s₂, hsteps, -, hend, hq9⟩ := Steps.callFree hC p X.admits X.cas X.clock (acts := []) hfr happ hPre trivial
  rw [hfr] at hend
  have hq9 : dz_QX D' Dt' sk sz post xp mc ms (Value.ref a :: As).toArray ((T.setVm vm₁).calling (F0 m pc la rest) mk (Value.ref a :: As).toArray) o s₂ := hq9
  have hcall : ((T.setVm vm₁).calling (F0 m pc la rest) mk (Value.ref a :: As).toArray).heap = H := hT
  have fin : ∀ (T' : State) (L : List Loc), (∀ z ∈ L, dz_A sk sz z.base) → va_F (dz_A sk sz) ((T.setVm vm₁).calling (F0 m pc la rest) mk (Value.ref a :: As).toArray) s₂ → s₂.heap = T'.heap → va_S A s.heap T'.heap (locs ++ L) := by
    intro T' L hL hF e1
    obtain ⟨f1, f2⟩ := hF
    rw [hcall, e1] at f1 f2
    refine ⟨Nat.le_trans hS.1 f1, fun q h1 h2 => ?_, fun z hz => ?_⟩
    · rw [f2 q (Nat.lt_of_lt_of_le h1 hS.1) (fun z => h2 (hsub q z))]
      exact hS.2.1 q h1 h2
    · rcases List.mem_append.mp hz with h | h
      · exact hS.2.2 z h
      · exact hsub _ (hL z h)
  rcases hq9 with ⟨⟨⟨v, sz', sk', rf', I', rfl, p1, p2, p3, p4⟩, p5⟩, L, ⟨-, p6, p7⟩, p8⟩ | ⟨x, E, ce, L, sz', sk', rf', I', rfl, p0, p01, p02, p6, p7, p8, p1, p2, p3, p4, p5⟩
  · obtain ⟨T', x1, x2, x3, x4⟩ := X₁.outOf (g := F0 m pc la rest) rfl hdg hend p6 p7
    have e1 : s₂.heap = T'.heap := by rw [x4]; rfl
    obtain ⟨t2, a1, a2⟩ := kk v sz' sk' rf' I' p1 T'.heap (locs ++ L) la (by rw [← e1]; exact p2) (by rw [← e1]; exact p3) (fun q x hx => hsub q (p4 q x hx)) (fin T' L p8 p5 e1) hc hl T' rfl x1
    refine ⟨t2, hstep₁ _ (fun acts => ?_), a2⟩
    rw [doInvoke_state]
    refine hsteps.trans ?_
    rw [x4]
    exact a1
  · obtain ⟨T', x1, x2, x3, x4⟩ := X₁.outOfThrown (g := F0 m pc la rest) rfl hend p6 p7
    have e1 : s₂.heap = T'.heap := by rw [x4]; rfl
    obtain ⟨hp9, ⟨pre, row, suf, w1, w2, w3, w4, w5, ⟨nm, w6, w7⟩, w8⟩, kV⟩ := kx E x sz' sk' rf' I' p1
    have tb : c.exceptionTable.toList.map (fun h => (h.startPc, h.endPc, h.handlerPc, h.catchType)) = hh := tb
    rw [w1] at tb
    obtain ⟨pre', rest', t1, t2, t3⟩ := List.map_eq_append_iff.mp tb
    obtain ⟨row', suf', t4, t5, t6⟩ := List.map_eq_cons_iff.mp t3
    subst t4
    have hE : s.vm.findClass E = some ce.cls := by
      have h9 : (T.setVm vm₁).vm.findClass E = some ce.cls := p02
      rw [X₁.warmed.alike.findClass] at h9
      exact h9
    obtain ⟨vm2, y1, y2⟩ := dz_caught x1 x (g := F0 m pc la rest) rfl (cell := ce) (by rw [← e1]; exact p0) p01 (E := E) (own := own) hE hown pre' row' suf' t1
      (fun z hz => by
        obtain ⟨v1, v2, v3, nm9, v4, v5⟩ := w2 _ (by rw [← t2]; exact List.mem_map.mpr ⟨z, hz, rfl⟩)
        refine ⟨?_, v3, nm9, hts _ v4, v5⟩
        simp only [covers, Bool.and_eq_true, decide_eq_true_eq]
        exact ⟨v1, v2⟩)
      (by
        simp only [covers, Bool.and_eq_true, decide_eq_true_eq]
        rw [← t5] at w3 w4
        exact ⟨w3, w4⟩) (by rw [← t5] at w5; exact w5) (nm := nm) (by rw [← t5] at w6; exact hts _ w6) (dz_nw_use w7 (hK.2.1 _ w7))
    obtain ⟨t9, a1, a2⟩ := kV T'.heap (locs ++ L) la (by rw [← e1]; exact p2) (by rw [← e1]; exact p3) (fun q x hx => hsub q (p4 q x hx)) (fin T' L p8 p5 e1) hc hl (T'.setVm vm2) rfl y1
    refine ⟨t9, hstep₁ _ (fun acts => ?_), a2⟩
    rw [doInvoke_state]
    refine hsteps.trans ?_
    rw [x4]
    refine y2 _ ?_
    rw [← t5] at w8
    rw [show row'.handlerPc = hp9 from w8]
    exact a1
end dz_exc5
