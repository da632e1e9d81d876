/-! the law's script, its rows, and the law's helper that reads it -/
def dz_Sc (κ : dz_Kx) (b0 L : Nat) (xs : Nat → Int32) : Prop := match κ with
  | (_, _, _, _, s, _, _, _, _, _, _, _, _, A, _) => va_X b0 L xs s s.heap ∧ b0 < s.heap.size ∧ ¬ A b0
def sp_sx (xs : Nat → Int32) (z : Int) : Int := (xs z.toNat).toInt
theorem sp_sx_rng (xs : Nat → Int32) (z : Int) : -2147483648 ≤ sp_sx xs z ∧ sp_sx xs z < 2147483648 := dz_rng _
def sp_sc (L : Nat) (xs : Nat → Int32) (z : Int) : Int := if z < (L : Int) then sp_sx xs z else 0
theorem sp_sc_rng (L : Nat) (xs : Nat → Int32) (z : Int) : -2147483648 ≤ sp_sc L xs z ∧ sp_sc L xs z < 2147483648 := by
  unfold sp_sc; have := sp_sx_rng xs z; split <;> omega
section dz_scr
variable {κ : dz_Kx} {cc : ByteArray} {own : String} {cells slots sz : Nat} {sk : dz_Sk} {rf : dz_Rf} {I : dz_Hp} {pc : Nat} {ls : List (Nat × Value)} {st : List Value}
theorem dz_slen (am : dz_Am κ cc own) {b0 L : Nat} {xs : Nat → Int32} (sc : dz_Sc κ b0 L xs) (hL : L ≤ 2050) (hd : decode cc pc = .ok (.arraylength, 1)) (kk : dz_V κ cells slots sz sk rf I (pc + 1) ls (.int (dz_i (L : Int)) :: st)) : dz_V κ cells slots sz sk rf I pc ls (.ref b0 :: st) := by
  obtain ⟨p, l, e, R, s, m, args, below, meth, c, Q, D, Dt, A, nL⟩ := κ
  obtain ⟨hx, hb, hml, hown, hts, hK, hA, hlk, hns⟩ := am
  obtain ⟨s1, s2, s3⟩ := sc
  intro H locs la hz hW hsA hS hc hl
  have h9 := kk H locs la hz hW hsA hS hc hl
  exact va_slen hx hb s1 s2 s3 hS hd h9
theorem dz_sld (am : dz_Am κ cc own) {b0 L : Nat} {xs : Nat → Int32} (sc : dz_Sc κ b0 L xs) (hL : L ≤ 2050) {z : Int} (hz9 : 0 ≤ z ∧ z < (L : Int)) (hd : decode cc pc = .ok (.iaload, 1)) (kk : dz_V κ cells slots sz sk rf I (pc + 1) ls (.int (dz_i (sp_sx xs z)) :: st)) : dz_V κ cells slots sz sk rf I pc ls (.int (dz_i z) :: .ref b0 :: st) := by
  obtain ⟨p, l, e, R, s, m, args, below, meth, c, Q, D, Dt, A, nL⟩ := κ
  obtain ⟨hx, hb, hml, hown, hts, hK, hA, hlk, hns⟩ := am
  obtain ⟨s1, s2, s3⟩ := sc
  intro H locs la hz hW hsA hS hc hl
  have h9 := kk H locs la hz hW hsA hS hc hl
  refine va_sld hx hb s1 s2 s3 hS (dz_in hz9 (by omega)) hd ?_
  rw [dz_cl (by omega), dz_of (xs z.toNat)]
  exact h9
theorem dz_lcmp (am : dz_Am κ cc own) {v w : Int} (hd : decode cc pc = .ok (.lcmp, 1)) (hvw : v = w) (kk : dz_V κ cells slots sz sk rf I (pc + 1) ls (.int (dz_i 0) :: st)) : dz_V κ cells slots sz sk rf I pc ls (.long (dz_i w).toInt64 :: .long (dz_i v).toInt64 :: st) := by
  subst hvw
  obtain ⟨p, l, e, R, s, m, args, below, meth, c, Q, D, Dt, A, nL⟩ := κ
  obtain ⟨hx, hb, hml, hown, hts, hK, hA, hlk, hns⟩ := am
  intro H locs la hz hW hsA hS hc hl
  have h9 := kk H locs la hz hW hsA hS hc hl
  refine W.lcmp hx hb hd ?_
  rw [show lg_cmp (dz_i v).toInt64 (dz_i v).toInt64 = dz_i 0 by unfold lg_cmp; simp; decide]
  exact h9
end dz_scr
def dz_no : dz_Sk := fun _ => none
def dz_nr : dz_Rf := fun _ _ => none
set_option maxHeartbeats 1000000 in
theorem c_Law_cell_0 (l : Launch) (D : va_G) (Dt : Nat → ClassId) (b0 L sz : Nat) (xs : Nat → Int32) (hL : L ≤ 2050) (z : Int) (hz : 0 ≤ z ∧ z < 100) : Met l y_Law_cell_0 (.code y_Law_cell_0 b_Law_cell_0 2 (some .int) :: dz_GW) (dz_rm 1 0 0) (va_Pc [.ref b0, .int (dz_i z)] (fun U => U.heap.size = sz ∧ (b0 < sz ∧ va_X b0 L xs U U.heap) ∧ dz_K D Dt (dz_A dz_no sz) U)) (dz_Q D Dt dz_no sz (fun v sz' _ _ _ => v = some (.int (dz_i (sp_sc L xs z))) ∧ sz' = sz)) 0 0 (dz_A dz_no sz) := by
  refine Met.ofW (cc := b_Law_cell_0) (maxL := 2) (ret := some .int) (by decide) rfl ?_
  intro p e s m args below meth c s₁ B hml hv
  obtain ⟨rfl, hsz, ⟨hb0, hX⟩, hK⟩ := hv
  have hts := atoms_spec (ws := .code y_Law_cell_0 b_Law_cell_0 2 (some .int) :: dz_GW) B.pre
  have hown : s.vm.findClass y_Law_cell_0.cls = some m.cls := findClass_of_methodNamed B.named
  have hl := lv_entry [.ref b0, .int (dz_i z)] (n := 2) (Nat.le_of_ble_eq_true rfl)
  rw [lg_entry_eq]
  have hW : dz_W D Dt dz_no dz_nr (fun _ _ => 0) s.heap := fun q x hx => by cases hx
  have key : ∀ κ : dz_Kx, dz_Am κ b_Law_cell_0 R_Law → dz_Sc κ b0 L xs → dz_Rt κ 0 0 dz_no sz (fun v sz' _ _ _ => v = some (.int (dz_i (sp_sc L xs z))) ∧ sz' = sz) (some .int) → dz_V κ 0 0 sz dz_no dz_nr (fun _ _ => 0) 0 (lv_args 0 [.ref b0, .int (dz_i z)]) [] := by
    intro κ am sc rt
    have hr := sp_sx_rng xs z
    refine dz_iload_n am 1 d_Law_cell_0_0 rfl rfl ?_
    refine dz_aload_n am 0 d_Law_cell_0_1 rfl rfl ?_
    refine dz_slen am sc hL d_Law_cell_0_2 ?_
    refine dz_icmp_ge (tgt := 12) am d_Law_cell_0_3 (by decide) (by omega) (by omega) (fun h => ?_) (fun h => ?_)
    · refine dz_iconst am d_Law_cell_0_12 ?_
      exact dz_iret am rt rfl d_Law_cell_0_13 ⟨by unfold sp_sc; rw [if_neg (by omega)], rfl⟩
    · refine dz_aload_n am 0 d_Law_cell_0_6 rfl rfl ?_
      refine dz_iload_n am 1 d_Law_cell_0_7 rfl rfl ?_
      refine dz_sld am sc hL (by omega) d_Law_cell_0_8 ?_
      refine dz_goto (tgt := 13) am d_Law_cell_0_9 (by decide) ?_
      exact dz_iret am rt rfl d_Law_cell_0_13 ⟨by unfold sp_sc; rw [if_pos (by omega)], rfl⟩
  exact key (p, l, e, (headSpec (.code y_Law_cell_0 b_Law_cell_0 2 (some .int) :: dz_GW) (dz_rm 1 0 0)).room, s, m, ([.ref b0, .int (dz_i z)] : List Value).toArray, below, meth, c, MQ below (dz_Q D Dt dz_no sz (fun v sz' _ _ _ => v = some (.int (dz_i (sp_sc L xs z))) ∧ sz' = sz)) ([.ref b0, .int (dz_i z)] : List Value).toArray s 0 0 (dz_A dz_no sz), D, Dt, dz_A dz_no sz, 2)
    ⟨B.exec, B.bytes, hml, hown, fun w hw => hts w (List.mem_cons_of_mem _ hw), hK, fun q hq => Or.inr (by omega), B.notSynchronized, dz_nonst hsz hW⟩ ⟨hX, by omega, fun h => by rcases h with ⟨_, h⟩ | h; (cases h); omega⟩ ⟨rfl, rfl, B.returns⟩
    s.heap [] _ hsz hW (fun q x hx => by cases hx) va_S.rf (ly_cat _ 0 rfl) hl
section dz_scr2
variable {κ : dz_Kx} {cc : ByteArray} {cells slots sz : Nat} {sk : dz_Sk} {rf : dz_Rf} {I : dz_Hp} {pc : Nat} {ls : List (Nat × Value)} {rest : List Value}
variable {l : Launch} {D : va_G} {Dt : Nat → ClassId} {nL0 d0 m0 s0 : Nat}
set_option maxHeartbeats 1000000 in
theorem dz_callSc (am : dz_Am κ cc R_Law) (hDd : dz_Dd κ l D Dt nL0) (hR : dz_Rm κ d0 m0 s0) {b0 L : Nat} {xs : Nat → Int32} (sc : dz_Sc κ b0 L xs) (hL : L ≤ 2050) {z : Int} (hz9 : 0 ≤ z ∧ z < 100) (hd0 : 2 ≤ d0) (hcm : cells ≤ m0) (hsm : slots ≤ s0) (hst : (rest.map fun v => v.category).sum ≤ 8) (hd : decode cc pc = .ok (.invokestatic 44, 3))
    (kk : dz_V κ cells slots sz sk rf I (pc + 3) ls (.int (dz_i (sp_sc L xs z)) :: rest)) : dz_V κ cells slots sz sk rf I pc ls (.int (dz_i z) :: .ref b0 :: rest) := by
  obtain ⟨p, l', e, R, s, m, args, below, meth, c, Q, D', Dt', A, nL'⟩ := κ
  obtain ⟨hx, hb, hml, hown, hts, hK, hA, hlk, hns⟩ := am
  obtain ⟨rfl, rfl, rfl, rfl⟩ := hDd
  obtain ⟨r1, r2, r3, r4⟩ := hR
  obtain ⟨s1, s2, s3⟩ := sc
  obtain ⟨g1, g2, g3, g4, g5, g6⟩ := cl_Law_44
  have g1 : Cond.methodLink R_Law 44 y_Law_cell_0 ∈ dz_GW := dz_g2 48 rfl rfl
  intro H locs la hz hW hsA hS hc hl
  have hsub : ∀ q, dz_A dz_no sz q → A q := fun q hq => by
    rcases hq with ⟨x, hx⟩ | hq
    · cases hx
    · exact hA q (by have := hS.1; omega)
  have hbl : FrameBlind (va_Pc [.ref b0, .int (dz_i z)] (fun U => U.heap.size = sz ∧ (b0 < sz ∧ va_X b0 L xs U U.heap) ∧ dz_K D' Dt' (dz_A dz_no sz) U)) := fun a U g mk h => by
    obtain ⟨h1, h2, ⟨h3, h4⟩, h5⟩ := h
    exact ⟨h1, h2, ⟨h3, va_X.moved (Vm.Alike.refl _) h4⟩, dz_K_same (u := U) (U := U.calling g mk a) rfl rfl h5⟩
  have hpc : ∀ U : State, U.heap = H → s.WarmedH U.vm → (va_Pc [.ref b0, .int (dz_i z)] (fun U => U.heap.size = sz ∧ (b0 < sz ∧ va_X b0 L xs U U.heap) ∧ dz_K D' Dt' (dz_A dz_no sz) U)) ([.ref b0, .int (dz_i z)] : List Value).toArray U := fun U hU hw =>
    ⟨rfl, by rw [hU]; exact hz, ⟨by have := hS.1; omega, by rw [hU]; exact (s1.kept (hS.2.1 b0 s2 s3)).moved hw.alike⟩, dz_K_moved hw (by rw [hU]; exact fun q h1 h2 => hS.2.1 q h1 h2) hsub hK⟩
  have hroom : (dz_rm 1 0 0).frames + 1 ≤ R.frames ∧ 8 + (2 + 11) + (dz_rm 1 0 0).locals ≤ R.locals := by
    simp only [dz_rm]; omega
  have hr := va_runS (p := p) (l := l') (e := e) (R := R) (s := s) (m := m) (args := args) (below := below) (meth := meth) (c := c) (H := H) (locs := locs) (cells := cells) (slots := slots) (g := F0 m pc la (.int (dz_i z) :: .ref b0 :: rest)) (rest := rest) (As := [.ref b0, .int (dz_i z)]) ⟨hx, hb, hml, hown, hts⟩ (c_Law_cell_0 l' D' Dt' b0 L sz xs hL z hz9) ⟨callB_of 2 hts (dz_goodw y_Law_cell_0 b_Law_cell_0 2 (some .int) g2) rfl rfl rfl (hts _ g3) (hts _ g1) g5 hroom, hts _ g6⟩ ⟨hbl, hpc⟩ rfl rfl hl.1 rfl (by show 2 * 0 + _ ≤ 8; omega) hd ⟨by omega, by omega⟩
  intro T hT X
  obtain ⟨v, st₀, t, T', L9, h0, X', hL9, e1, e2, ⟨⟨v', sz', sk', rf', I', hv, ⟨hp1, hp2⟩, hz', hW', hA'⟩, hzz, hk⟩, stp⟩ := hr T hT X
  cases hv
  subst hp1 hp2
  rw [h0] at hzz hk
  have hk2 : ∀ q : Nat, q < H.size → T'.heap[q]? = H[q]? := fun q hq => by
    rw [e1]
    exact hk q hq (fun h => by rcases h with ⟨_, h⟩ | h; (cases h); omega)
  obtain ⟨t2, a1, b1⟩ := kk T'.heap (locs ++ L9) la (by rw [e1]; exact hz') (fun q x hx => (hW q x hx).kept (hk2 q (hW.lt hx))) hsA
    ⟨Nat.le_trans hS.1 (by rw [e1]; exact hzz), fun q h1 h2 => by rw [hk2 q (Nat.lt_of_lt_of_le h1 hS.1)]; exact hS.2.1 q h1 h2, fun q hq => by
      rcases List.mem_append.mp hq with h | h
      · exact hS.2.2 q h
      · exact hsub _ (hL9 q h)⟩ hc hl T' rfl X'
  exact ⟨t2, stp t2 a1, b1⟩
end dz_scr2
