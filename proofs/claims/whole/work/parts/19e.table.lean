/-! methods with a table: contracts, and static calls of them -/
def dz_CW (l : Launch) (D : va_G) (Dt : Nat → ClassId) (y : MethodName) (cc : ByteArray) (nL : Nat) (ret : Option FieldType) (hh : List (Nat × Nat × Nat × Nat)) (d mc ms : Nat) (av : List Value) (sz : Nat) (sk : dz_Sk) (rf : dz_Rf) (I : dz_Hp) (post : dz_Po) : Prop :=
  Met l y (.codeWith y cc nL ret hh :: dz_GW) (dz_rm d mc ms) (va_Pc av (fun U => U.heap.size = sz ∧ dz_W D Dt sk rf I U.heap ∧ dz_K D Dt (dz_A sk sz) U)) (dz_Q D Dt sk sz post) mc ms (dz_A sk sz)
theorem dz_enterW {l : Launch} {D : va_G} {Dt : Nat → ClassId} {y : MethodName} {cc : ByteArray} {nL : Nat} {ret : Option FieldType} {hh : List (Nat × Nat × Nat × Nat)} {d mc ms : Nat} {av : List Value} {sz : Nat} {sk : dz_Sk} {rf : dz_Rf} {I : dz_Hp} {post : dz_Po} (own : String) (hy : plainName y.cls = true) (ho : y.cls = own) (hlen : (lg_sl av).length ≤ nL) (hcat : ∀ q, q ∈ lv_args 0 av → q.2.category = 1)
    (h : ∀ κ : dz_Kx, dz_Am κ cc own → dz_Dd κ l D Dt nL → dz_Rt κ mc ms sk sz post ret → dz_Rm κ d mc ms → dz_Tb κ hh → dz_V κ 0 0 sz sk rf I 0 (lv_args 0 av) []) : dz_CW l D Dt y cc nL ret hh d mc ms av sz sk rf I post := by
  refine va_MetW (cc := cc) (maxL := nL) (ret := ret) (hh := hh) hy rfl ?_
  intro p e s m args below meth c s₁ B hml hv
  obtain ⟨rfl, hsz, hW, hK⟩ := hv
  have hts := atoms_spec (ws := .codeWith y cc nL ret hh :: dz_GW) B.pre
  have hown : s.vm.findClass y.cls = some m.cls := findClass_of_methodNamed B.named
  rw [ho] at hown
  have hl := lv_entry av (n := nL) hlen
  obtain ⟨m9, meth9, c9, n1, n2, n3, -, -, n6, -, -⟩ := Cond.codeWith_spec (hts _ List.mem_cons_self)
  cases Option.some.inj (n1.symm.trans B.named)
  cases Option.some.inj (n2.symm.trans B.method)
  cases Option.some.inj (n3.symm.trans (Stand.of_body B).code)
  rw [lg_entry_eq]
  exact h (p, l, e, (headSpec (.codeWith y cc nL ret hh :: dz_GW) (dz_rm d mc ms)).room, s, m, av.toArray, below, meth, c, MQ below (dz_Q D Dt sk sz post) av.toArray s mc ms (dz_A sk sz), D, Dt, dz_A sk sz, nL)
    ⟨B.exec, B.bytes, hml, hown, fun w hw => hts w (List.mem_cons_of_mem _ hw), hK, fun q hq => Or.inr (by omega), B.notSynchronized, dz_nonst hsz hW⟩ ⟨rfl, rfl, rfl, rfl⟩ ⟨rfl, rfl, B.returns⟩ ⟨Nat.le_refl _, Nat.le_refl _, Nat.le_refl _, Nat.le_refl _⟩ n6
    s.heap [] _ hsz hW (fun q x hx => Or.inl ⟨x, hx⟩) va_S.rf hcat hl
/-- the words of a static call of a method with a table -/
def dz_Cw (own : String) (index : Nat) (y : MethodName) (cc : ByteArray) (nL : Nat) (ret : Option FieldType) (hh : List (Nat × Nat × Nat × Nat)) (n : Nat) : Prop :=
  Cond.methodLink own index y ∈ dz_GW ∧ Cond.codeWith y cc nL ret hh ∈ dz_GW ∧ Cond.initialized y.cls ∈ dz_GW ∧ nL ≤ 17 ∧
  (y.cls ≠ "java/lang/invoke/MethodHandle" ∧ y.cls ≠ "java/lang/invoke/VarHandle" ∧ (parseMethodDescriptor y.desc).map (fun d => d.parameters.length) = some n) ∧ Cond.static y ∈ dz_GW
section dz_tab
variable {κ : dz_Kx} {cc : ByteArray} {own : String} {cells slots sz : Nat} {sk : dz_Sk} {rf : dz_Rf} {I : dz_Hp} {pc : Nat} {ls : List (Nat × Value)}
variable {l : Launch} {D : va_G} {Dt : Nat → ClassId} {y : MethodName} {bc : ByteArray} {nL nL0 d d0 m0 s0 mc ms n index : Nat} {ret : Option FieldType} {post : dz_Po} {As rest : List Value} {hh : List (Nat × Nat × Nat × Nat)}
theorem dz_callSW (am : dz_Am κ cc own) (hDd : dz_Dd κ l D Dt nL0) (hR : dz_Rm κ d0 m0 s0) (hg : dz_Cw own index y bc nL ret hh n) (hC : dz_CW l D Dt y bc nL ret hh d mc ms As sz sk rf I post) (hd0 : d + 1 ≤ d0) (hcm : cells + mc ≤ m0) (hsm : slots + ms ≤ s0) (hn : As.length = n) {st0 : List Value} (hst0 : st0 = As.reverse ++ rest) (hst : (rest.map fun v => v.category).sum ≤ 8) (hd : decode cc pc = .ok (.invokestatic index, 3))
    (kk : ∀ v sz' sk' rf' I', post v sz' sk' rf' I' → dz_V κ (cells + mc) (slots + ms) sz' sk' rf' I' (pc + 3) ls (v.toList ++ rest)) : dz_V κ cells slots sz sk rf I pc ls st0 := by
  obtain ⟨p, l', e, R, s, m, args, below, meth, c, Q, D', Dt', A, nL'⟩ := κ
  obtain ⟨hx, hb, hml, hown, hts, hK, hA, hlk, hns⟩ := am
  obtain ⟨rfl, rfl, rfl, rfl⟩ := hDd
  obtain ⟨r1, r2, r3, r4⟩ := hR
  obtain ⟨g1, g2, g3, g4, g5, g6⟩ := hg
  intro H locs la hz hW hsA hS hc hl
  obtain ⟨hbl, hpc⟩ := dz_pre (As := As) hA hz hsA hS hK hW
  have hroom : (dz_rm d mc ms).frames + 1 ≤ R.frames ∧ 8 + (nL + 11) + (dz_rm d mc ms).locals ≤ R.locals := by
    simp only [dz_rm]; omega
  have hws : ∀ w ∈ (.codeWith y bc nL ret hh :: dz_GW : List Cond), ∀ (a' : Array Value) (U : State), s.WarmedH U.vm → w.before a' U = true := by
    intro w hw a' U hWU
    rcases List.mem_cons.mp hw with rfl | hw
    · exact word_at hWU (dz_good _ g2) (hts _ g2)
    · exact word_at hWU (dz_good _ hw) (hts _ hw)
  have hBk : Back l' R p e below s args y 3 8 (PreOf R mc ms _) (PostOf (dz_Q D' Dt' sk sz post) mc ms (dz_A sk sz)) := va_backW (bytes := bc) (maxL := nL) (ret := ret) (hh := hh) hC hbl rfl rfl hroom.1 hroom.2 hws List.mem_cons_self (fun a' U hW9 => word_at hW9 (dz_good _ g3) (hts _ g3))
  have hlen : ∀ sig, parseMethodDescriptor y.desc = some sig → (As : List Value).length = sig.parameters.length := by
    intro sig h
    have h2 := g5.2.2
    rw [h] at h2
    rw [hn]
    exact (Option.some.inj h2).symm
  refine dz_after (post := post) (a := As.toArray) (mc := mc) (ms := ms) (rest := rest) ?_ hA hz hsA hS hc hl kk
  intro T hT X
  obtain ⟨mk, methM, cM, hnamed, hmethM, -, -, -, -, -, -, hsigM⟩ := Cond.codeWith_spec (hts _ g2)
  have hstatic : methM.isStatic = true := Cond.static_spec hnamed hmethM (hts _ g6)
  obtain ⟨kP, hkP, -⟩ := className_of_methodNamed hnamed
  have hinitP : kP.init = .initialized := Cond.initialized_spec (findClass_of_methodNamed hnamed) hkP (hts _ g3)
  obtain ⟨vm₁, X₁, hstep₁⟩ := X.invokestatic hx hown (hts _ g1) hnamed hmethM hstatic hkP hinitP ⟨g5.1, g5.2.1⟩ (g := F0 m pc la st0) rfl (argsL := As) (rest := rest) (hlen _ hsigM) hst0 (by rw [hb]; exact hd)
  obtain ⟨v, ⟨U', l2, c2, s2⟩, X', ⟨g', mk', t, L, e1, e2, hq, h1, hL, h2, h3⟩, hsteps⟩ := hBk m meth c ⟨T.setVm vm₁, locs, cells, slots⟩ (F0 m pc la rest) (.invokestatic index) mk As.toArray X₁ rfl (by rw [hml]; exact hl.1) (by rw [hb]; exact hd) (by show 2 * 0 + (rest.map fun v => v.category).sum ≤ 8; omega) (X₁.named hnamed) ⟨by show cells + mc ≤ R.cells; omega, by show slots + ms ≤ R.slots; omega, hpc (T.setVm vm₁) hT X₁.warmed⟩
  dsimp only [Pt.U, Pt.locs, Pt.cells, Pt.slots] at X' e1 e2 h1 h2 h3 hsteps
  subst h1; subst h2; subst h3
  exact ⟨v, (T.setVm vm₁).calling g' mk' As.toArray, t, U', L, hT, X', hL, e1, e2, hq, fun target h => hstep₁ _ fun acts => by rw [doInvoke_state]; exact hsteps.trans h⟩
end dz_tab
