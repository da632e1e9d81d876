/-! 'throw new X()' : from 'new' to the method's end -/
section dz_exc4
variable {κ : dz_Kx} {cc : ByteArray} {cells slots sz : Nat} {sk : dz_Sk} {rf : dz_Rf} {I : dz_Hp} {pc : Nat} {ls : List (Nat × Value)}
set_option maxHeartbeats 400000 in
theorem dz_thrown {mc ms d : Nat} {sk0 : dz_Sk} {sz0 : Nat} {post : dz_Po} {xp : dz_Px} {ret : Option FieldType} (cls : String) {ik ic : Nat} (am : dz_Am κ cc R_DotBook) (rx : dz_Rx κ mc ms sk0 sz0 post xp ret) (rm : dz_Rm κ d mc ms) (hd : 6 ≤ d)
    (hown0 : ∀ (args : Array Value) (u : State), (∀ w ∈ dz_GW, w.before args u = true) → (∀ w ∈ dz_NW, w.before args u = true) → (Cond.laysStatic Jvm.Bundle.tN "UNASSIGNED_STACK" Jvm.Bundle.steD).before args u = true → (Cond.laysStatic Jvm.Bundle.tN "SUPPRESSED_SENTINEL" Jvm.Bundle.listD).before args u = true → (Cond.isRef (.static Jvm.Bundle.tN "UNASSIGNED_STACK" Jvm.Bundle.steD)).before args u = true → (Cond.isRef (.static Jvm.Bundle.tN "SUPPRESSED_SENTINEL" Jvm.Bundle.listD)).before args u = true → ∀ a ∈ Jvm.Bundle.ownAtoms0 R_DotBook ic cls ["java/lang/RuntimeException", "java/lang/Exception"], a.before args u = true)
    (hfit : Jvm.Bundle.fit cls = true) (w1 : Cond.classLink R_DotBook ik cls ∈ dz_GW) (w2 : Cond.instantiable cls 6 ∈ dz_GW) (w3 : Cond.initialized cls ∈ dz_GW)
    (d0 : decode cc pc = .ok (.new ik, 3)) (d1 : decode cc (pc + 3) = .ok (.dup, 1)) (d2 : decode cc (pc + 4) = .ok (.invokespecial ic, 3)) (d3 : decode cc (pc + 7) = .ok (.athrow, 1)) (hcm : cells + 1 ≤ mc) (hsm : slots + 6 ≤ ms)
    (hp : xp cls (sz + 1) sk rf I) : dz_V κ cells slots sz sk rf I pc ls [] := by
  obtain ⟨p, l, e, R, s, m, args, below, meth, c, Q, D, Dt, A, nL⟩ := κ
  obtain ⟨hx, hb, hml, hown, hts, hK, hA, hlk, hns⟩ := am
  obtain ⟨r1, r2, r3, r4, r5⟩ := rx
  obtain ⟨m1, m2, m3, m4⟩ := rm
  subst r1
  intro H locs la hz hW hsA hS hc hl
  intro T hT X
  have hsh : ∀ q : Nat, q < s.heap.size → ¬ A q → T.heap[q]? = s.heap[q]? := fun q h1 h2 => by rw [hT]; exact hS.2.1 q h1 h2
  have X' := dz_rebase (R' := { frames := R.frames, cells := 1, slots := 6, locals := R.locals }) X (Nat.le_refl _) (Nat.le_refl _) (by show cells + 1 ≤ R.cells; omega) (by show slots + 6 ≤ R.slots; omega)
  have hvm : s.vm = (dz_here s T m args below).vm := rfl
  have hG : ∀ w ∈ dz_GW, w.before args (dz_here s T m args below) = true := fun w hw => word_at (s := s) (U := dz_here s T m args below) (State.WarmedH.refl s) (dz_good w hw) (hts w hw)
  have hN : ∀ w ∈ dz_NW, w.before args (dz_here s T m args below) = true := fun w hw => dz_nw_use hw (dz_nw_same hw hvm (hK.2.1 w hw))
  obtain ⟨-, -, -, -, -, -, -, -, -, s6, s7⟩ := hK.2.2.2.2.2
  have hSt1 := (dz_SL.moved (U := dz_here s T m args below) (Vm.Alike.refl s.vm) (s6.kept (H1 := T.heap) hsh)).words args
  have hSt2 := (dz_SL.moved (U := dz_here s T m args below) (Vm.Alike.refl s.vm) (s7.kept (H1 := T.heap) hsh)).words args
  have hat := hown0 args (dz_here s T m args below) hG hN hSt1.1 hSt2.1 hSt1.2 hSt2.2
  have htr : e.platform.stackTraces = false := by rw [X.admits.platform]; exact r5
  obtain ⟨cX, kX, f1, f2, -⟩ := Cond.instantiable_spec (hG _ w2)
  have hown9 : (dz_here s T m args below).vm.findClass R_DotBook = some m.cls := hown
  have K : W p l e { frames := R.frames, cells := 1, slots := 6, locals := R.locals } (dz_here s T m args below) m args below meth c T.heap [] 0 0 (fun U => ∃ (a : Addr) (ce : Cell), a = T.heap.size ∧ U.status = .running ∧ Ended U below (.threw a) ∧ (dz_here s T m args below).WarmedH U.vm ∧ (dz_here s T m args below).sameButNew ({ U with vm := (dz_here s T m args below).vm } : State) [] 1 6 ∧ U.heap[a]? = some ce ∧ ce.vm = .none ∧ s.vm.findClass cls = some ce.cls) (F0 m pc la []) := by
    refine W.newcK (s := dz_here s T m args below) (g := F0 m pc la []) (index := ik) hx hb (own := R_DotBook) (C := cls) (n := 6) hown9 (hG _ w1) (hG _ w2) (hG _ w3) rfl d0 (by show 0 + 1 ≤ 1; omega) (by show 0 + 6 ≤ 6; omega) f1 rfl fun H1 kC hkC e1 z1 o1 => ?_
    refine W.eq (g2 := F0 m (pc + 3) la [.ref T.heap.size]) rfl ?_
    refine lv_dup hx hb d1 rfl ?_
    intro T1 hT1 X1
    obtain ⟨U, u1, u2, u3, u4, u5, ce, u6, u7⟩ := X1.ctorThrow0 hx htr (own := R_DotBook) (cls := cls) (names := ["java/lang/RuntimeException", "java/lang/Exception"]) (ic := ic) hown9 hfit (by decide) hat (fun y hy => by cases hy) (a := T.heap.size) (cX := cX) (kX := kC) f1 hkC (by rw [hT1, e1]; rfl) (Nat.le_refl _)
      (g := F0 m (pc + 3 + 1) la [.ref T.heap.size, .ref T.heap.size]) rfl (by rw [hml]; exact hl.1) rfl rfl (rest := []) rfl (by rw [hb]; exact d2) (by rw [hb]; exact d3) (fun y hy => by
        have : c.exceptionTable.toList = [] := by
          have h9 : c.exceptionTable.size = 0 := by simpa [Array.isEmpty] using r4
          exact List.eq_nil_of_length_eq_zero (by rw [Array.length_toList]; exact h9)
        rw [this] at hy; cases hy) (by show 2 + 3 < R.frames; omega) (by show 2 * 0 + 1 + (13 * (2 + 1) + 41) ≤ R.locals; omega) hlk
    exact ⟨U, u1, T.heap.size, ce, rfl, u2, u3, u4, u5, u6, u7.vm, u7.cls⟩
  obtain ⟨U, k1, a, ce, rfl, k2, k3, k4, k5, k6, k7, k8⟩ := K T rfl X'
  obtain ⟨q1, q2, q3⟩ := dz_kept k5
  have q1 : T.heap.size ≤ U.heap.size := q1
  have q2 : U.heap.size ≤ T.heap.size + 1 := q2
  have q3 : ∀ q : Nat, q < T.heap.size → U.heap[q]? = T.heap[q]? := q3
  have q4 : T.heap.size < U.heap.size := (Array.getElem?_eq_some_iff.mp k6).1
  have hsm9 : s.sameButNew ({ U with vm := s.vm } : State) (locs ++ []) (cells + 1) (slots + 6) := X.same.trans (dz_unframe k5)
  rw [List.append_nil] at hsm9
  refine ⟨U, k1, .threw T.heap.size, k2, k3, Or.inr ⟨T.heap.size, cls, ce, locs, sz + 1, sk, rf, I, rfl, k6, k7, k8, k4, hsm9.mono hcm hsm, fun z hz => by rw [← r2]; exact hS.2.2 z hz, hp, by rw [hT] at q2 q4; omega, ?_, fun q y hy => by rw [← r2]; exact hsA q y hy, ?_, ?_⟩⟩
  · intro q y hy
    exact (hW q y hy).kept (H1 := U.heap) (by rw [q3 q (by rw [hT]; exact hW.lt hy), hT])
  · have := hS.1
    rw [hT] at q1
    omega
  · intro q h1 h2
    rw [← r2] at h2
    have h3 : q < T.heap.size := by rw [hT]; have := hS.1; omega
    rw [q3 q h3]
    exact hsh q h1 h2
end dz_exc4
