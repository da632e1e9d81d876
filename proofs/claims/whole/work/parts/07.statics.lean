/-! What the walks know of the tables and of the statics: carried along by every contract. -/
def dz_lc (j : Nat) : Int32 := ([1, 3, 9, 25, 17, 11, 27, 19, 10, 26, 5, 7, 13, 29, 21, 15, 31, 23, 14, 30, 37, 39, 58, 45, 61, 53] : List Int32).getD j 0
def dz_mc (j : Nat) : Int32 := ([50, 2, 6, 18, 38, 22, 36, 4] : List Int32).getD j 0
/-- the two texts: 0 "wbmea", 1 ".,;:?!-'" -/
def dz_sl : List Nat := [5, 8]
def dz_sb : List (List Int32) := [[119, 98, 109, 101, 97], [46, 44, 59, 58, 63, 33, 45, 39]]
/-- a static that holds some reference or null, and where it lies -/
def dz_SL (C n d : String) (A : Nat → Prop) (U : State) (H : Heap) : Prop := ∃ (c : ClassId) (k : Class) (i : Nat) (f : Field) (a : Nat) (cell : Cell) (v : Value), U.vm.findClass C = some c ∧ U.fieldFound? C n d = some (c, k, i, f) ∧ f.isStatic = true ∧ k.statics = some a ∧ H[a]? = some cell ∧ cell.vm.isStatics = true ∧ cell.cls = c ∧ k.staticTypes[f.slot]? = some f.type ∧ cell.slots[f.slot]? = some v ∧ v.isRef = true ∧ ¬ A a
theorem dz_SL.moved {C n d : String} {A : Nat → Prop} {u U : State} {H : Heap} (hvm : u.vm.Alike U.vm) (h : dz_SL C n d A u H) : dz_SL C n d A U H := by
  obtain ⟨c, k, i, f, a, cell, v, h1, h2, h3, h4, h5, h6, h7, h8, h9⟩ := h
  obtain ⟨k', hi', he⟩ := State.fieldFound?_setVm hvm h2
  exact ⟨c, k', i, f, a, cell, v, by rw [hvm.findClass]; exact h1, hi', h3, by rw [he]; exact h4, h5, h6, h7, by rw [he]; exact h8, h9⟩
theorem dz_SL.kept {C n d : String} {A : Nat → Prop} {U : State} {H H1 : Heap} (h : dz_SL C n d A U H) (hq : ∀ a : Nat, a < H.size → ¬ A a → H1[a]? = H[a]?) : dz_SL C n d A U H1 := by
  obtain ⟨c, k, i, f, a, cell, v, h1, h2, h3, h4, h5, h6, h7, h8, h9, h10, h11⟩ := h
  exact ⟨c, k, i, f, a, cell, v, h1, h2, h3, h4, by rw [hq a (Array.getElem?_eq_some_iff.mp h5).1 h11]; exact h5, h6, h7, h8, h9, h10, h11⟩
theorem dz_SL.narrow {C n d : String} {A B : Nat → Prop} {U : State} {H : Heap} (h : dz_SL C n d A U H) (hAB : ∀ q, B q → A q) : dz_SL C n d B U H := by
  obtain ⟨c, k, i, f, a, cell, v, h1, h2, h3, h4, h5, h6, h7, h8, h9, h10, h11⟩ := h
  exact ⟨c, k, i, f, a, cell, v, h1, h2, h3, h4, h5, h6, h7, h8, h9, h10, fun z => h11 (hAB a z)⟩
theorem dz_SL.words {C n d : String} {A : Nat → Prop} {s : State} (args : Array Value) (h : dz_SL C n d A s s.heap) : (Cond.laysStatic C n d).before args s = true ∧ (Cond.isRef (.static C n d)).before args s = true := by
  obtain ⟨c, k, i, f, a, cell, v, h1, h2, h3, h4, h5, h6, h7, h8, h9, h10, -⟩ := h
  refine ⟨Cond.laysStatic_of h1 h2 h3 h4 h5 h6 h7 (Array.getElem?_eq_some_iff.mp h9).1 h8, ?_⟩
  have he : (Term.static C n d).eval args s none [] s = some v := by
    simp [Term.eval, State.fieldNamed?, h2, h3, h4, h5, h6, h9]
  simp only [Cond.before, Cond.holds, Cond.value, he]
  cases v <;> simp_all [Value.isRef]
theorem dz_SL.of {C n d : String} {A : Nat → Prop} {s : State} {args : Array Value} (hl : (Cond.laysStatic C n d).before args s = true) (hr : (Cond.isRef (.static C n d)).before args s = true) (hA : ∀ a : Nat, a < s.heap.size → ¬ A a) : dz_SL C n d A s s.heap := by
  obtain ⟨c, k, i, f, a, cell, h1, h2, h3, h4, h5, h6, h7, h8, h9⟩ := Cond.laysStatic_spec hl
  have hs : cell.slots[f.slot]? = some cell.slots[f.slot] := Array.getElem?_eq_getElem h8
  have he : (Term.static C n d).eval args s none [] s = some cell.slots[f.slot] := by
    simp [Term.eval, State.fieldNamed?, h2, h3, h4, h5, h6, hs]
  refine ⟨c, k, i, f, a, cell, _, h1, h2, h3, h4, h5, h6, h7, h9, hs, ?_, hA a (Array.getElem?_eq_some_iff.mp h5).1⟩
  simp only [Cond.before, Cond.holds, Cond.value, he] at hr
  revert hr
  cases cell.slots[f.slot] <;> simp [Value.isRef]
def dz_ST (Dt : Nat → ClassId) (A : Nat → Prop) (U : State) (H : Heap) : Prop :=
  va_Z "DotBook$Code" "LETTER_CELLS" "[I" (.ref (Dt 300)) A U H ∧ va_T .int (Dt 300) 26 (fun j => .int (dz_lc j)) A U H ∧
  va_Z "DotBook$Code" "MARK_CELLS" "[I" (.ref (Dt 301)) A U H ∧ va_T .int (Dt 301) 8 (fun j => .int (dz_mc j)) A U H ∧
  vk_S 2 dz_sl dz_sb (fun i => Dt (100 + i)) (fun i => Dt (200 + i)) A U H ∧ vk_R "DotBook$Rule" 19 "wbmea" (Dt 100) U ∧ vk_R "DotBook$Code" 24 ".,;:?!-'" (Dt 101) U ∧
  va_Z "java/lang/String" "COMPACT_STRINGS" "Z" (.int 1) A U H ∧
  va_Zq "jdk/internal/util/Preconditions" "SIOOBE_FORMATTER" "Ljava/util/function/BiFunction;" A U H ∧
  dz_SL "java/lang/Throwable" "UNASSIGNED_STACK" "[Ljava/lang/StackTraceElement;" A U H ∧
  dz_SL "java/lang/Throwable" "SUPPRESSED_SENTINEL" "Ljava/util/List;" A U H
theorem dz_ST_moved {Dt : Nat → ClassId} {A B : Nat → Prop} {s U : State} {H0 H : Heap} (hw : s.WarmedH U.vm) (hq : ∀ a : Nat, a < H0.size → ¬ A a → H[a]? = H0[a]?) (hAB : ∀ q, B q → A q) (h : dz_ST Dt A s H0) : dz_ST Dt B U H := by
  obtain ⟨a1, a2, b1, b2, c1, c2, c3, d, e, f, g⟩ := h
  have ha := hw.alike
  exact ⟨((a1.kept hq).narrow hAB).moved ha, ((a2.kept hq).narrow hAB).moved ha, ((b1.kept hq).narrow hAB).moved ha, ((b2.kept hq).narrow hAB).moved ha, ((c1.kept hq).narrow hAB).moved ha, c2.warm hw, c3.warm hw, ((d.kept hq).narrow hAB).moved ha, ((e.kept hq).narrow hAB).moved ha, ((f.kept hq).narrow hAB).moved ha, ((g.kept hq).narrow hAB).moved ha⟩
theorem dz_ST_same {Dt : Nat → ClassId} {A : Nat → Prop} {s U : State} {H : Heap} (hv : s.vm = U.vm) (h : dz_ST Dt A s H) : dz_ST Dt A U H := by
  obtain ⟨a1, a2, b1, b2, c1, c2, c3, d, e, f, g⟩ := h
  have ha : s.vm.Alike U.vm := by rw [hv]; exact Vm.Alike.refl _
  exact ⟨a1.moved ha, a2.moved ha, b1.moved ha, b2.moved ha, c1.moved ha, c2.same hv.symm, c3.same hv.symm, d.moved ha, e.moved ha, f.moved ha, g.moved ha⟩
def dz_K (D : va_G) (Dt : Nat → ClassId) (A : Nat → Prop) (U : State) : Prop := va_K D vwCl (dz_tys Dt) U ∧ (∀ w ∈ dz_NW, va_Nw w U) ∧ va_AO "DotBook$Rule" U ∧ va_AO "DotBook$Block" U ∧ va_Nc "java/lang/IllegalStateException" "java/lang/IllegalArgumentException" U ∧ dz_ST Dt A U U.heap
theorem dz_nw_warm {w : Cond} (hw : w ∈ dz_NW) {s U : State} (h : s.WarmedH U.vm) (hs : va_Nw w s) : va_Nw w U := by
  have h2 := (List.mem_filter.mp hw).2
  unfold dz_ns at h2
  split at h2
  · exact va_Nw.warmF h hs
  · exact va_Nw.warmM h hs
  · exact va_Nw.warmD h hs
  · exact va_tabs rfl (rfl : (s.setVm U.vm).vm = U.vm) (by rw [Cond.castable_setVm h.alike]; exact hs)
  · cases h2
theorem dz_nw_same {w : Cond} (hw : w ∈ dz_NW) {s U : State} (h : s.vm = U.vm) (hs : va_Nw w s) : va_Nw w U := by
  have h2 := (List.mem_filter.mp hw).2
  unfold dz_ns at h2
  split at h2
  · exact va_Nw.same rfl h hs
  · exact va_Nw.same rfl h hs
  · exact va_Nw.same rfl h hs
  · exact va_Nw.same rfl h hs
  · cases h2
theorem dz_K_moved {D : va_G} {Dt : Nat → ClassId} {A B : Nat → Prop} {s U : State} (hw : s.WarmedH U.vm) (hq : ∀ a : Nat, a < s.heap.size → ¬ A a → U.heap[a]? = s.heap[a]?) (hAB : ∀ q, B q → A q) (h : dz_K D Dt A s) : dz_K D Dt B U :=
  ⟨va_K.moved hw.alike h.1, fun w hx => dz_nw_warm hx hw (h.2.1 w hx), va_AO.moved hw.alike h.2.2.1, va_AO.moved hw.alike h.2.2.2.1, va_Nc.moved hw.alike h.2.2.2.2.1, dz_ST_moved hw hq hAB h.2.2.2.2.2⟩
theorem dz_K_same {D : va_G} {Dt : Nat → ClassId} {A : Nat → Prop} {u U : State} (hv : u.vm = U.vm) (hh : U.heap = u.heap) (h : dz_K D Dt A u) : dz_K D Dt A U := by
  have ha : u.vm.Alike U.vm := by rw [hv]; exact Vm.Alike.refl _
  exact ⟨va_K.moved ha h.1, fun w hx => dz_nw_same hx hv (h.2.1 w hx), va_AO.moved ha h.2.2.1, va_AO.moved ha h.2.2.2.1, va_Nc.moved ha h.2.2.2.2.1, by rw [hh]; exact dz_ST_same hv h.2.2.2.2.2⟩
