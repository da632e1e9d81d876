/-! CONTRACTS over the layer: a method's start and end, returns, calls. -/
def dz_A (sk : dz_Sk) (sz : Nat) : Nat → Prop := fun q => (∃ x, sk q = some x) ∨ sz ≤ q
abbrev dz_Po : Type := Option Value → Nat → dz_Sk → dz_Rf → dz_Hp → Prop
def dz_Q (D : va_G) (Dt : Nat → ClassId) (sk : dz_Sk) (sz : Nat) (post : dz_Po) : Array Value → State → Outcome → State → Prop := fun _ st oc t =>
  (∃ (v : Option Value) (sz' : Nat) (sk' : dz_Sk) (rf' : dz_Rf) (I' : dz_Hp), oc = .returned v ∧ post v sz' sk' rf' I' ∧ t.heap.size = sz' ∧ dz_W D Dt sk' rf' I' t.heap ∧ ∀ q x, sk' q = some x → dz_A sk sz q) ∧ va_F (dz_A sk sz) st t
def dz_rm (d mc ms : Nat) : Room := { frames := d, cells := mc, slots := ms, locals := 36 * d }
/-- a contract: y, called with av at a heap of sz cells that holds (sk, rf, I), returns, and post holds of the answer and the heap behind it -/
def dz_C (l : Launch) (D : va_G) (Dt : Nat → ClassId) (y : MethodName) (cc : ByteArray) (nL : Nat) (ret : Option FieldType) (d mc ms : Nat) (av : List Value) (sz : Nat) (sk : dz_Sk) (rf : dz_Rf) (I : dz_Hp) (post : dz_Po) : Prop :=
  Met l y (.code y cc nL ret :: dz_GW) (dz_rm d mc ms) (va_Pc av (fun U => U.heap.size = sz ∧ dz_W D Dt sk rf I U.heap ∧ dz_K D Dt (dz_A sk sz) U)) (dz_Q D Dt sk sz post) mc ms (dz_A sk sz)
/-- what the end of a walk is -/
def dz_Rt (κ : dz_Kx) (mc ms : Nat) (sk : dz_Sk) (sz : Nat) (post : dz_Po) (ret : Option FieldType) : Prop := match κ with
  | (_, _, _, _, s, _, args, below, meth, _, Q, D, Dt, A, _) => Q = MQ below (dz_Q D Dt sk sz post) args s mc ms (dz_A sk sz) ∧ A = dz_A sk sz ∧ meth.sig.returnType = ret
/-- the room of a walk -/
def dz_Rm (κ : dz_Kx) (d mc ms : Nat) : Prop := match κ with
  | (_, _, _, R, _, _, _, _, _, _, _, _, _, _, _) => d ≤ R.frames ∧ 36 * d ≤ R.locals ∧ mc ≤ R.cells ∧ ms ≤ R.slots
def dz_Nm (κ : dz_Kx) (n : String) : Prop := match κ with
  | (_, _, _, _, _, _, _, _, meth, _, _, _, _, _, _) => meth.name = n
def dz_Dd (κ : dz_Kx) (l : Launch) (D : va_G) (Dt : Nat → ClassId) (nL : Nat) : Prop := match κ with
  | (_, l', _, _, _, _, _, _, _, _, _, D', Dt', _, nL') => l' = l ∧ D' = D ∧ Dt' = Dt ∧ nL' = nL
theorem dz_nonst {D : va_G} {Dt : Nat → ClassId} {sk : dz_Sk} {rf : dz_Rf} {I : dz_Hp} {H : Heap} {sz : Nat} (hz : H.size = sz) (hW : dz_W D Dt sk rf I H) : ∀ (q : Nat) (x : Cell), dz_A sk sz q → H[q]? = some x → x.vm.isStatics = false := by
  intro q x hq hx
  rcases hq with ⟨y, hy⟩ | hq
  · have h := hW q y hy
    rcases y with ⟨k, n⟩ | ci
    · have h2 : H[q]? = some (vp_cell (Dt k) (n, dz_ar k (rf q) (I q))) := h
      rw [hx] at h2
      cases h2
      unfold vp_cell
      split <;> rfl
    · obtain ⟨r, -, cell, e1, -, e3, -⟩ := h
      have e1 : H[q]? = some cell := e1
      rw [hx] at e1
      cases e1
      rw [e3]; rfl
  · have : q < H.size := (Array.getElem?_eq_some_iff.mp hx).1
    omega
theorem dz_enter {l : Launch} {D : va_G} {Dt : Nat → ClassId} {y : MethodName} {cc : ByteArray} {nL : Nat} {ret : Option FieldType} {d mc ms : Nat} {av : List Value} {sz : Nat} {sk : dz_Sk} {rf : dz_Rf} {I : dz_Hp} {post : dz_Po} (own : String) (hy : plainName y.cls = true) (ho : y.cls = own) (hlen : (lg_sl av).length ≤ nL) (hcat : ∀ q, q ∈ lv_args 0 av → q.2.category = 1)
    (h : ∀ κ : dz_Kx, dz_Am κ cc own → dz_Dd κ l D Dt nL → dz_Rt κ mc ms sk sz post ret → dz_Rm κ d mc ms → dz_Nm κ y.name → dz_V κ 0 0 sz sk rf I 0 (lv_args 0 av) []) : dz_C l D Dt y cc nL ret d mc ms av sz sk rf I post := by
  refine Met.ofW (cc := cc) (maxL := nL) (ret := ret) hy rfl ?_
  intro p e s m args below meth c s₁ B hml hv
  obtain ⟨rfl, hsz, hW, hK⟩ := hv
  have hts := atoms_spec (ws := .code y cc nL ret :: dz_GW) B.pre
  have hown : s.vm.findClass y.cls = some m.cls := findClass_of_methodNamed B.named
  rw [ho] at hown
  have hl := lv_entry av (n := nL) hlen
  rw [lg_entry_eq]
  exact h (p, l, e, (headSpec (.code y cc nL ret :: dz_GW) (dz_rm d mc ms)).room, s, m, av.toArray, below, meth, c, MQ below (dz_Q D Dt sk sz post) av.toArray s mc ms (dz_A sk sz), D, Dt, dz_A sk sz, nL)
    ⟨B.exec, B.bytes, hml, hown, fun w hw => hts w (List.mem_cons_of_mem _ hw), hK, fun q hq => Or.inr (by omega), B.notSynchronized, dz_nonst hsz hW⟩ ⟨rfl, rfl, rfl, rfl⟩ ⟨rfl, rfl, B.returns⟩ ⟨Nat.le_refl _, Nat.le_refl _, Nat.le_refl _, Nat.le_refl _⟩ (name_of_methodNamed B.named B.method).1
    s.heap [] _ hsz hW (fun q x hx => Or.inl ⟨x, hx⟩) va_S.rf hcat hl
section dz_ends
variable {κ : dz_Kx} {cc : ByteArray} {own : String} {cells slots sz : Nat} {sk : dz_Sk} {rf : dz_Rf} {I : dz_Hp} {pc : Nat} {ls : List (Nat × Value)} {st : List Value}
theorem dz_widen {k n : Nat} (h1 : cells ≤ k) (h2 : slots ≤ n) (kk : dz_V κ k n sz sk rf I pc ls st) : dz_V κ cells slots sz sk rf I pc ls st := by
  obtain ⟨p, l, e, R, s, m, args, below, meth, c, Q, D, Dt, A, nL⟩ := κ
  intro H locs la hz hW hsA hS hc hl
  exact W.widen h1 h2 (kk H locs la hz hW hsA hS hc hl)
theorem dz_vret {sk0 : dz_Sk} {sz0 : Nat} {post : dz_Po} (am : dz_Am κ cc own) (rt : dz_Rt κ cells slots sk0 sz0 post none) (hd : decode cc pc = .ok (.return_, 1)) (hp : post none sz sk rf I) : dz_V κ cells slots sz sk rf I pc ls [] := by
  obtain ⟨p, l, e, R, s, m, args, below, meth, c, Q, D, Dt, A, nL⟩ := κ
  obtain ⟨hx, hb, hml, hown, hts, hK, hA, hlk, hns⟩ := am
  obtain ⟨r1, r2, r3⟩ := rt
  subst r1 r2
  intro H locs la hz hW hsA hS hc hl
  exact W.vret hx hb r3 (fun t ht hW' => ⟨⟨none, sz, sk, rf, I, rfl, hp, by rw [ht]; exact hz, by rw [ht]; exact hW, hsA⟩, hS.F ht⟩) hS.2.2 hd hlk
theorem dz_iret {sk0 : dz_Sk} {sz0 : Nat} {post : dz_Po} {z : Int} {ty : FieldType} (am : dz_Am κ cc own) (rt : dz_Rt κ cells slots sk0 sz0 post (some ty)) (hn : narrow ty (.int (dz_i z)) = .int (dz_i z)) (hd : decode cc pc = .ok (.ireturn, 1)) (hp : post (some (.int (dz_i z))) sz sk rf I) : dz_V κ cells slots sz sk rf I pc ls [.int (dz_i z)] := by
  obtain ⟨p, l, e, R, s, m, args, below, meth, c, Q, D, Dt, A, nL⟩ := κ
  obtain ⟨hx, hb, hml, hown, hts, hK, hA, hlk, hns⟩ := am
  obtain ⟨r1, r2, r3⟩ := rt
  subst r1 r2
  intro H locs la hz hW hsA hS hc hl
  exact W.zret hx hb r3 hn (fun t ht hW' => ⟨⟨_, sz, sk, rf, I, rfl, hp, by rw [ht]; exact hz, by rw [ht]; exact hW, hsA⟩, hS.F ht⟩) hS.2.2 hd hlk
theorem dz_aret {sk0 : dz_Sk} {sz0 : Nat} {post : dz_Po} {v : Value} {nm : String} (am : dz_Am κ cc own) (rt : dz_Rt κ cells slots sk0 sz0 post (some (.object nm))) (hv : v = .null ∨ ∃ a, v = .ref a) (hd : decode cc pc = .ok (.areturn, 1)) (hp : post (some v) sz sk rf I) : dz_V κ cells slots sz sk rf I pc ls [v] := by
  obtain ⟨p, l, e, R, s, m, args, below, meth, c, Q, D, Dt, A, nL⟩ := κ
  obtain ⟨hx, hb, hml, hown, hts, hK, hA, hlk, hns⟩ := am
  obtain ⟨r1, r2, r3⟩ := rt
  subst r1 r2
  intro H locs la hz hW hsA hS hc hl
  exact W.aret hx hb r3 (Or.inl ⟨nm, rfl⟩) hv (fun t ht hW' => ⟨⟨_, sz, sk, rf, I, rfl, hp, by rw [ht]; exact hz, by rw [ht]; exact hW, hsA⟩, hS.F ht⟩) hS.2.2 hd hlk
/-- the tables' words of a call: kind 0 of an instance method, 1 of a static one, 2 of a constructor -/
def dz_Cg (own : String) (index : Nat) (y : MethodName) (cc : ByteArray) (nL : Nat) (ret : Option FieldType) (n kind : Nat) : Prop :=
  (Cond.methodLink own index y ∈ dz_GW ∨ ∃ host : String, Cond.methodLinkNest own index y host ∈ dz_NW) ∧ Cond.code y cc nL ret ∈ dz_GW ∧ Cond.initialized y.cls ∈ dz_GW ∧ nL ≤ 17 ∧
  (y.cls ≠ "java/lang/invoke/MethodHandle" ∧ y.cls ≠ "java/lang/invoke/VarHandle" ∧ (parseMethodDescriptor y.desc).map (fun d => d.parameters.length) = some n) ∧
  (match kind with
    | 0 => Cond.instanceMethod y ∈ dz_GW ∧ Cond.selects y.cls y y ∈ dz_GW
    | 1 => Cond.static y ∈ dz_GW
    | _ => Cond.instanceMethod y ∈ dz_GW ∧ y.name = "<init>" ∧ ret = none)
theorem dz_goodw (y : MethodName) (cc : ByteArray) (nL : Nat) (ret : Option FieldType) (h : Cond.code y cc nL ret ∈ dz_GW) : GoodIn dz_GW (.code y cc nL ret :: dz_GW) := by
  intro w hw
  rcases List.mem_cons.mp hw with e | hw
  · subst e; exact ⟨h, dz_good _ h⟩
  · exact ⟨hw, dz_good _ hw⟩
theorem dz_after {p : Program} {l : Launch} {e : Env} {R : Room} {s : State} {m : MethodId} {args : Array Value} {below : List Frame} {meth : Method} {c : Code} {Q : State → Prop} {D : va_G} {Dt : Nat → ClassId} {A : Nat → Prop} {nL mc ms : Nat} {H : Heap} {locs : List Loc} {la : Array Slot} {st0 rest : List Value} {a : Array Value} {post : dz_Po}
    (hr : va_Run p l e R s m args below meth c H locs cells slots mc ms (F0 m pc la st0) rest (dz_Q D Dt sk sz post a) (dz_A sk sz)) (hA : ∀ q : Nat, s.heap.size ≤ q → A q) (hz : H.size = sz) (hsA : ∀ q x, sk q = some x → A q) (hS : va_S A s.heap H locs) (hc : ∀ q, q ∈ ls → q.2.category = 1) (hl : lv_has la nL ls)
    (kk : ∀ v sz' sk' rf' I', post v sz' sk' rf' I' → dz_V (p, l, e, R, s, m, args, below, meth, c, Q, D, Dt, A, nL) (cells + mc) (slots + ms) sz' sk' rf' I' (pc + 3) ls (v.toList ++ rest)) : W p l e R s m args below meth c H locs cells slots Q (F0 m pc la st0) := by
  have hsub : ∀ q, dz_A sk sz q → A q := fun q hq => by
    rcases hq with ⟨x, hx⟩ | hq
    · exact hsA q x hx
    · exact hA q (by have := hS.1; omega)
  intro T hT X
  obtain ⟨v, st₀, t, T', L, h0, X', hL, e1, e2, ⟨⟨v', sz', sk', rf', I', hv, hp, hz', hW', hA'⟩, hzz, hk⟩, stp⟩ := hr T hT X
  cases hv
  rw [h0] at hzz hk
  obtain ⟨t2, a1, b1⟩ := kk v sz' sk' rf' I' hp T'.heap (locs ++ L) la (by rw [e1]; exact hz') (by rw [e1]; exact hW') (fun q x hx => hsub q (hA' q x hx))
    ⟨Nat.le_trans hS.1 (by rw [e1]; exact hzz), fun q h1 h2 => by rw [e1, hk q (Nat.lt_of_lt_of_le h1 hS.1) (fun z => h2 (hsub q z))]; exact hS.2.1 q h1 h2, fun q hq => by
      rcases List.mem_append.mp hq with h | h
      · exact hS.2.2 q h
      · exact hsub _ (hL q h)⟩ hc hl T' rfl X'
  exact ⟨t2, stp t2 a1, b1⟩
theorem dz_pre {s : State} {D : va_G} {Dt : Nat → ClassId} {A : Nat → Prop} {H : Heap} {locs : List Loc} {As : List Value} (hA : ∀ q : Nat, s.heap.size ≤ q → A q) (hz : H.size = sz) (hsA : ∀ q x, sk q = some x → A q) (hS : va_S A s.heap H locs) (hK : dz_K D Dt A s) (hW : dz_W D Dt sk rf I H) :
    FrameBlind (va_Pc As (fun U => U.heap.size = sz ∧ dz_W D Dt sk rf I U.heap ∧ dz_K D Dt (dz_A sk sz) U)) ∧ ∀ U : State, U.heap = H → s.WarmedH U.vm → (va_Pc As (fun U => U.heap.size = sz ∧ dz_W D Dt sk rf I U.heap ∧ dz_K D Dt (dz_A sk sz) U)) As.toArray U := by
  have hsub : ∀ q, dz_A sk sz q → A q := fun q hq => by
    rcases hq with ⟨x, hx⟩ | hq
    · exact hsA q x hx
    · exact hA q (by have := hS.1; omega)
  refine ⟨fun a U g mk h => ?_, fun U hU hw => ⟨rfl, by rw [hU]; exact hz, by rw [hU]; exact hW, ?_⟩⟩
  · obtain ⟨h1, h2, h3, h4⟩ := h
    exact ⟨h1, h2, h3, dz_K_same (u := U) (U := U.calling g mk a) rfl rfl h4⟩
  · exact dz_K_moved hw (by rw [hU]; exact fun q h1 h2 => hS.2.1 q h1 h2) hsub hK
variable {l : Launch} {D : va_G} {Dt : Nat → ClassId} {y : MethodName} {bc : ByteArray} {nL nL0 d d0 m0 s0 mc ms n index : Nat} {ret : Option FieldType} {post : dz_Po} {As rest : List Value} {a : Nat}
theorem dz_callV (am : dz_Am κ cc own) (hDd : dz_Dd κ l D Dt nL0) (hR : dz_Rm κ d0 m0 s0) (hg : dz_Cg own index y bc nL ret n 0) (hC : dz_C l D Dt y bc nL ret d mc ms (.ref a :: As) sz sk rf I post) (hd0 : d + 1 ≤ d0) (hcm : cells + mc ≤ m0) (hsm : slots + ms ≤ s0) {ci : Nat} (hq : sk a = some (.inr ci)) {r : vw_C} (hci : vwCl[ci]? = some r) (hrc : r.1 = y.cls) (hn : As.length = n) {st0 : List Value} (hst0 : st0 = As.reverse ++ .ref a :: rest) (hst : (rest.map fun v => v.category).sum ≤ 8) (hd : decode cc pc = .ok (.invokevirtual index, 3))
    (kk : ∀ v sz' sk' rf' I', post v sz' sk' rf' I' → dz_V κ (cells + mc) (slots + ms) sz' sk' rf' I' (pc + 3) ls (v.toList ++ rest)) : dz_V κ cells slots sz sk rf I pc ls st0 := by
  obtain ⟨p, l', e, R, s, m, args, below, meth, c, Q, D', Dt', A, nL'⟩ := κ
  obtain ⟨hx, hb, hml, hown, hts, hK, hA, hlk, hns⟩ := am
  obtain ⟨rfl, rfl, rfl, rfl⟩ := hDd
  obtain ⟨r1, r2, r3, r4⟩ := hR
  obtain ⟨g1, g2, g3, g4, g5, g6, g7⟩ := hg
  intro H locs la hz hW hsA hS hc hl
  obtain ⟨hbl, hpc⟩ := dz_pre (As := .ref a :: As) hA hz hsA hS hK hW
  have hrcv := va_recv hK.1 (hW.one hq) hci (q0 := 0) (a := a) rfl
  rw [hrc] at hrcv
  have hroom : (dz_rm d mc ms).frames + 1 ≤ R.frames ∧ 8 + (nL + 11) + (dz_rm d mc ms).locals ≤ R.locals := by
    simp only [dz_rm]; omega
  refine dz_after (post := post) (a := (Value.ref a :: As).toArray) ?_ hA hz hsA hS hc hl kk
  rcases g1 with g1 | ⟨host, g1⟩
  · exact va_runV ⟨hx, hb, hml, hown, hts⟩ hC ⟨callB_of n hts (dz_goodw y bc nL ret g2) rfl rfl rfl (hts _ g3) (hts _ g1) g5 hroom, hts _ g6, hts _ g7⟩ ⟨hbl, hrcv, hpc⟩ rfl hn hl.1 hst0 (by show 2 * 0 + _ ≤ 8; omega) hd ⟨by omega, by omega⟩
  · exact va_runVN ⟨hx, hb, hml, hown, hts⟩ hC ⟨va_cnB n hts (dz_goodw y bc nL ret g2) rfl rfl rfl (hK.2.1 _ g1) (hts _ g3) g5 hroom, hts _ g6, hts _ g7⟩ ⟨hbl, hrcv, hpc⟩ rfl hn hl.1 hst0 (by show 2 * 0 + _ ≤ 8; omega) hd ⟨by omega, by omega⟩
theorem dz_callS (am : dz_Am κ cc own) (hDd : dz_Dd κ l D Dt nL0) (hR : dz_Rm κ d0 m0 s0) (hg : dz_Cg own index y bc nL ret n 1) (hC : dz_C l D Dt y bc nL ret d mc ms As sz sk rf I post) (hd0 : d + 1 ≤ d0) (hcm : cells + mc ≤ m0) (hsm : slots + ms ≤ s0) (hn : As.length = n) {st0 : List Value} (hst0 : st0 = As.reverse ++ rest) (hst : (rest.map fun v => v.category).sum ≤ 8) (hd : decode cc pc = .ok (.invokestatic index, 3))
    (kk : ∀ v sz' sk' rf' I', post v sz' sk' rf' I' → dz_V κ (cells + mc) (slots + ms) sz' sk' rf' I' (pc + 3) ls (v.toList ++ rest)) : dz_V κ cells slots sz sk rf I pc ls st0 := by
  obtain ⟨p, l', e, R, s, m, args, below, meth, c, Q, D', Dt', A, nL'⟩ := κ
  obtain ⟨hx, hb, hml, hown, hts, hK, hA, hlk, hns⟩ := am
  obtain ⟨rfl, rfl, rfl, rfl⟩ := hDd
  obtain ⟨r1, r2, r3, r4⟩ := hR
  obtain ⟨g1, g2, g3, g4, g5, g6⟩ := hg
  intro H locs la hz hW hsA hS hc hl
  obtain ⟨hbl, hpc⟩ := dz_pre (As := As) hA hz hsA hS hK hW
  have hroom : (dz_rm d mc ms).frames + 1 ≤ R.frames ∧ 8 + (nL + 11) + (dz_rm d mc ms).locals ≤ R.locals := by
    simp only [dz_rm]; omega
  refine dz_after (post := post) (a := As.toArray) ?_ hA hz hsA hS hc hl kk
  rcases g1 with g1 | ⟨host, g1⟩
  · exact va_runS ⟨hx, hb, hml, hown, hts⟩ hC ⟨callB_of n hts (dz_goodw y bc nL ret g2) rfl rfl rfl (hts _ g3) (hts _ g1) g5 hroom, hts _ g6⟩ ⟨hbl, hpc⟩ rfl hn hl.1 hst0 (by show 2 * 0 + _ ≤ 8; omega) hd ⟨by omega, by omega⟩
  · exact va_runSN ⟨hx, hb, hml, hown, hts⟩ hC ⟨va_cnB n hts (dz_goodw y bc nL ret g2) rfl rfl rfl (hK.2.1 _ g1) (hts _ g3) g5 hroom, hts _ g6, trivial⟩ ⟨hbl, hpc⟩ rfl hn hl.1 hst0 (by show 2 * 0 + _ ≤ 8; omega) hd ⟨by omega, by omega⟩
theorem dz_callI (am : dz_Am κ cc own) (hDd : dz_Dd κ l D Dt nL0) (hR : dz_Rm κ d0 m0 s0) (hg : dz_Cg own index y bc nL none n 2) (hC : dz_C l D Dt y bc nL none d mc ms (.ref a :: As) sz sk rf I post) (hd0 : d + 1 ≤ d0) (hcm : cells + mc ≤ m0) (hsm : slots + ms ≤ s0) (hn : As.length = n) {st0 : List Value} (hst0 : st0 = As.reverse ++ .ref a :: rest) (hst : (rest.map fun v => v.category).sum ≤ 8) (hd : decode cc pc = .ok (.invokespecial index, 3))
    (kk : ∀ v sz' sk' rf' I', post v sz' sk' rf' I' → dz_V κ (cells + mc) (slots + ms) sz' sk' rf' I' (pc + 3) ls (v.toList ++ rest)) : dz_V κ cells slots sz sk rf I pc ls st0 := by
  obtain ⟨p, l', e, R, s, m, args, below, meth, c, Q, D', Dt', A, nL'⟩ := κ
  obtain ⟨hx, hb, hml, hown, hts, hK, hA, hlk, hns⟩ := am
  obtain ⟨rfl, rfl, rfl, rfl⟩ := hDd
  obtain ⟨r1, r2, r3, r4⟩ := hR
  obtain ⟨g1, g2, g3, g4, g5, g6, g7, -⟩ := hg
  intro H locs la hz hW hsA hS hc hl
  obtain ⟨hbl, hpc⟩ := dz_pre (As := .ref a :: As) hA hz hsA hS hK hW
  have hroom : (dz_rm d mc ms).frames + 1 ≤ R.frames ∧ 8 + (nL + 11) + (dz_rm d mc ms).locals ≤ R.locals := by
    simp only [dz_rm]; omega
  refine dz_after (post := post) (a := (Value.ref a :: As).toArray) ?_ hA hz hsA hS hc hl kk
  rcases g1 with g1 | ⟨host, g1⟩
  · exact va_runI ⟨hx, hb, hml, hown, hts⟩ hC ⟨callB_of n hts (dz_goodw y bc nL none g2) rfl rfl rfl (hts _ g3) (hts _ g1) g5 hroom, g7, hts _ g6⟩ ⟨hbl, hpc⟩ rfl hn hl.1 hst0 (by show 2 * 0 + _ ≤ 8; omega) hd ⟨by omega, by omega⟩
  · exact va_runIN ⟨hx, hb, hml, hown, hts⟩ hC ⟨va_cnB n hts (dz_goodw y bc nL none g2) rfl rfl rfl (hK.2.1 _ g1) (hts _ g3) g5 hroom, g7, hts _ g6⟩ ⟨hbl, hpc⟩ rfl hn hl.1 hst0 (by show 2 * 0 + _ ≤ 8; omega) hd ⟨by omega, by omega⟩
end dz_ends
