/-! What the walks know of the tables and of the statics: carried along by every contract. -/
def dz_lc (j : Nat) : Int32 := ([1, 3, 9, 25, 17, 11, 27, 19, 10, 26, 5, 7, 13, 29, 21, 15, 31, 23, 14, 30, 37, 39, 58, 45, 61, 53] : List Int32).getD j 0
def dz_mc (j : Nat) : Int32 := ([50, 2, 6, 18, 38, 22, 36, 4] : List Int32).getD j 0
/-- the two texts: 0 "wbmea", 1 ".,;:?!-'" -/
def dz_sl : List Nat := [5, 8]
def dz_sb : List (List Int32) := [[119, 98, 109, 101, 97], [46, 44, 59, 58, 63, 33, 45, 39]]
def dz_ST (A : Nat → Prop) (U : State) (H : Heap) : Prop :=
  (∃ t : Nat, va_Z "DotBook$Code" "LETTER_CELLS" "[I" (.ref t) A U H ∧ va_T .int t 26 (fun j => .int (dz_lc j)) A U H) ∧
  (∃ t : Nat, va_Z "DotBook$Code" "MARK_CELLS" "[I" (.ref t) A U H ∧ va_T .int t 8 (fun j => .int (dz_mc j)) A U H) ∧
  (∃ adK adV : Nat → Nat, vk_S 2 dz_sl dz_sb adK adV A U H ∧ vk_R "DotBook$Rule" 19 "wbmea" (adK 0) U ∧ vk_R "DotBook$Code" 24 ".,;:?!-'" (adK 1) U) ∧
  va_Z "java/lang/String" "COMPACT_STRINGS" "Z" (.int 1) A U H ∧
  va_Zq "jdk/internal/util/Preconditions" "SIOOBE_FORMATTER" "Ljava/util/function/BiFunction;" A U H ∧
  va_Zq "java/lang/Throwable" "UNASSIGNED_STACK" "[Ljava/lang/StackTraceElement;" A U H ∧
  va_Zq "java/lang/Throwable" "SUPPRESSED_SENTINEL" "Ljava/util/List;" A U H
theorem dz_ST_moved {A B : Nat → Prop} {s U : State} {H0 H : Heap} (hw : s.WarmedH U.vm) (hq : ∀ a : Nat, a < H0.size → ¬ A a → H[a]? = H0[a]?) (hAB : ∀ q, B q → A q) (h : dz_ST A s H0) : dz_ST B U H := by
  obtain ⟨⟨t1, a1, a2⟩, ⟨t2, b1, b2⟩, ⟨k, v, c1, c2, c3⟩, d, e, f, g⟩ := h
  have ha := hw.alike
  exact ⟨⟨t1, ((a1.kept hq).narrow hAB).moved ha, ((a2.kept hq).narrow hAB).moved ha⟩, ⟨t2, ((b1.kept hq).narrow hAB).moved ha, ((b2.kept hq).narrow hAB).moved ha⟩, ⟨k, v, ((c1.kept hq).narrow hAB).moved ha, c2.warm hw, c3.warm hw⟩, ((d.kept hq).narrow hAB).moved ha, ((e.kept hq).narrow hAB).moved ha, ((f.kept hq).narrow hAB).moved ha, ((g.kept hq).narrow hAB).moved ha⟩
theorem dz_ST_same {A : Nat → Prop} {s U : State} {H : Heap} (hv : s.vm = U.vm) (h : dz_ST A s H) : dz_ST A U H := by
  obtain ⟨⟨t1, a1, a2⟩, ⟨t2, b1, b2⟩, ⟨k, v, c1, c2, c3⟩, d, e, f, g⟩ := h
  have ha : s.vm.Alike U.vm := by rw [hv]; exact Vm.Alike.refl _
  exact ⟨⟨t1, a1.moved ha, a2.moved ha⟩, ⟨t2, b1.moved ha, b2.moved ha⟩, ⟨k, v, c1.moved ha, c2.same hv.symm, c3.same hv.symm⟩, d.moved ha, e.moved ha, f.moved ha, g.moved ha⟩
def dz_K (D : va_G) (Dt : Nat → ClassId) (A : Nat → Prop) (U : State) : Prop := va_K D vwCl (dz_tys Dt) U ∧ (∀ w ∈ dz_NW, va_Nw w U) ∧ va_AO "DotBook$Rule" U ∧ va_AO "DotBook$Block" U ∧ dz_ST A U U.heap
theorem dz_nw_warm {w : Cond} (hw : w ∈ dz_NW) {s U : State} (h : s.WarmedH U.vm) (hs : va_Nw w s) : va_Nw w U := by
  have h2 := (List.mem_filter.mp hw).2
  unfold dz_ns at h2
  split at h2
  · exact va_Nw.warmF h hs
  · exact va_Nw.warmM h hs
  · cases h2
theorem dz_nw_same {w : Cond} (hw : w ∈ dz_NW) {s U : State} (h : s.vm = U.vm) (hs : va_Nw w s) : va_Nw w U := by
  have h2 := (List.mem_filter.mp hw).2
  unfold dz_ns at h2
  split at h2
  · exact va_Nw.same rfl h hs
  · exact va_Nw.same rfl h hs
  · cases h2
theorem dz_K_moved {D : va_G} {Dt : Nat → ClassId} {A B : Nat → Prop} {s U : State} (hw : s.WarmedH U.vm) (hq : ∀ a : Nat, a < s.heap.size → ¬ A a → U.heap[a]? = s.heap[a]?) (hAB : ∀ q, B q → A q) (h : dz_K D Dt A s) : dz_K D Dt B U :=
  ⟨va_K.moved hw.alike h.1, fun w hx => dz_nw_warm hx hw (h.2.1 w hx), va_AO.moved hw.alike h.2.2.1, va_AO.moved hw.alike h.2.2.2.1, dz_ST_moved hw hq hAB h.2.2.2.2⟩
theorem dz_K_same {D : va_G} {Dt : Nat → ClassId} {A : Nat → Prop} {u U : State} (hv : u.vm = U.vm) (hh : U.heap = u.heap) (h : dz_K D Dt A u) : dz_K D Dt A U := by
  have ha : u.vm.Alike U.vm := by rw [hv]; exact Vm.Alike.refl _
  exact ⟨va_K.moved ha h.1, fun w hx => dz_nw_same hx hv (h.2.1 w hx), va_AO.moved ha h.2.2.1, va_AO.moved ha h.2.2.2.1, by rw [hh]; exact dz_ST_same hv h.2.2.2.2⟩
