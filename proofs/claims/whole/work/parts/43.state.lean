/-! methods that may throw, over the layout -/
def ly_CX (l : Launch) (D : va_G) (Dt : Nat → ClassId) (b sz : Nat) (y : MethodName) (cc : ByteArray) (nL : Nat) (ret : Option FieldType) (d : Nat) (av : List Value) (I : dz_Hp) (post : Option Value → dz_Hp → Prop) (xp : String → dz_Hp → Prop) : Prop :=
  dz_CX l D Dt y cc nL ret d 1 6 av sz (ly_s b) (ly_r b) I (fun v sz' sk' rf' I' => sz' = sz ∧ sk' = ly_s b ∧ rf' = ly_r b ∧ post v I') (fun E sz' sk' rf' I' => sz' = sz + 1 ∧ sk' = ly_s b ∧ rf' = ly_r b ∧ xp E I')
def ly_XX (κ : dz_Kx) (l : Launch) (D : va_G) (Dt : Nat → ClassId) (b sz : Nat) (cc : ByteArray) (own : String) (nL : Nat) (ret : Option FieldType) (d : Nat) (post : Option Value → dz_Hp → Prop) (xp : String → dz_Hp → Prop) : Prop :=
  dz_Am κ cc own ∧ dz_Dd κ l D Dt nL ∧ dz_Rx κ 1 6 (ly_s b) sz (fun v sz' sk' rf' I' => sz' = sz ∧ sk' = ly_s b ∧ rf' = ly_r b ∧ post v I') (fun E sz' sk' rf' I' => sz' = sz + 1 ∧ sk' = ly_s b ∧ rf' = ly_r b ∧ xp E I') ret ∧ dz_Rm κ d 1 6
theorem ly_enterX {l : Launch} (hl : l.stackTraces = false) {D : va_G} {Dt : Nat → ClassId} {b sz : Nat} {y : MethodName} {cc : ByteArray} {nL : Nat} {ret : Option FieldType} {d : Nat} {av : List Value} {I : dz_Hp} {post : Option Value → dz_Hp → Prop} {xp : String → dz_Hp → Prop} (own : String) (hy : plainName y.cls = true) (ho : y.cls = own) (hlen : (lg_sl av).length ≤ nL) (hcat : ∀ q, q ∈ lv_args 0 av → q.2.category = 1)
    (h : ∀ κ : dz_Kx, ly_XX κ l D Dt b sz cc own nL ret d post xp → ly_V κ b sz I 0 (lv_args 0 av) []) : ly_CX l D Dt b sz y cc nL ret d av I post xp :=
  dz_enterX hl own hy ho hlen hcat (fun κ am dd rx rm => h κ ⟨am, dd, rx, rm⟩)
section ly_xrows
variable {κ : dz_Kx} {l : Launch} {D : va_G} {Dt : Nat → ClassId} {b sz : Nat} {cc : ByteArray} {own : String} {nL : Nat} {ret : Option FieldType} {d : Nat} {post : Option Value → dz_Hp → Prop} {xp : String → dz_Hp → Prop} {I : dz_Hp} {pc : Nat} {ls : List (Nat × Value)} {st : List Value}
theorem ly_NX (h : ly_XX κ l D Dt b sz cc own nL ret d post xp) : dz_n κ = nL := by
  obtain ⟨p, l', e, R, s, m, args, below, meth, c, Q, D', Dt', A, nL'⟩ := κ
  exact h.2.1.2.2.2
theorem ly_iretX {z : Int} {ty : FieldType} (x : ly_XX κ l D Dt b sz cc own nL (some ty) d post xp) (hd : decode cc pc = .ok (.ireturn, 1)) (hn : narrow ty (.int (dz_i z)) = .int (dz_i z)) (hp : post (some (.int (dz_i z))) I) : ly_V κ b sz I pc ls [.int (dz_i z)] :=
  dz_widen (k := 1) (n := 6) (by omega) (by omega) (dz_retX x.2.2.1 x.1 (fun κ' am' rt' => dz_iret am' rt' hn hd ⟨rfl, rfl, rfl, hp⟩))
variable {y : MethodName} {bc : ByteArray} {nL' d' n index : Nat} {ret' : Option FieldType} {post' : Option Value → dz_Hp → Prop} {As rest : List Value} {a : Nat}
theorem ly_callVX (x : ly_XX κ l D Dt b sz cc own nL ret d post xp) (hg : dz_Cg own index y bc nL' ret' n 0) (hC : ly_M l D Dt b sz y bc nL' ret' d' (.ref a :: As) I post') (hd0 : d' + 1 ≤ d) {ci : Nat} (hq : ly_s b a = some (.inr ci)) {r : vw_C} (hci : vwCl[ci]? = some r) (hrc : r.1 = y.cls) (hn : As.length = n) {st0 : List Value} (hst0 : st0 = As.reverse ++ .ref a :: rest) (hst : (rest.map fun v => v.category).sum ≤ 8) (hd : decode cc pc = .ok (.invokevirtual index, 3))
    (kk : ∀ v I', post' v I' → ly_V κ b sz I' (pc + 3) ls (v.toList ++ rest)) : ly_V κ b sz I pc ls st0 :=
  dz_callV x.1 x.2.1 x.2.2.2 hg hC hd0 (by omega) (by omega) hq hci hrc hn hst0 hst hd (fun v sz' sk' rf' I' h => by obtain ⟨rfl, rfl, rfl, h⟩ := h; exact kk v I' h)
end ly_xrows
section ly_xthrow
variable {κ : dz_Kx} {l : Launch} {D : va_G} {Dt : Nat → ClassId} {b sz : Nat} {cc : ByteArray} {nL : Nat} {ret : Option FieldType} {d : Nat} {post : Option Value → dz_Hp → Prop} {xp : String → dz_Hp → Prop} {I : dz_Hp} {pc : Nat} {ls : List (Nat × Value)}
theorem ly_IAE (x : ly_XX κ l D Dt b sz cc R_DotBook nL ret d post xp) (hd : 6 ≤ d) (d0 : decode cc pc = .ok (.new 59, 3)) (d1 : decode cc (pc + 3) = .ok (.dup, 1)) (d2 : decode cc (pc + 4) = .ok (.invokespecial 61, 3)) (d3 : decode cc (pc + 7) = .ok (.athrow, 1)) (hp : xp xc_IAE I) : ly_V κ b sz I pc ls [] :=
  dz_thrown xc_IAE x.1 x.2.2.1 x.2.2.2 hd (fun args u a1 a2 a3 a4 a5 a6 => dz_own_IAE a1 a2 a3 a4 a5 a6) (by decide +kernel) dz_ownL_IAE dz_ownI_IAE dz_ownN_IAE d0 d1 d2 d3 (by omega) (by omega) ⟨rfl, rfl, rfl, hp⟩
theorem ly_ISE (x : ly_XX κ l D Dt b sz cc R_DotBook nL ret d post xp) (hd : 6 ≤ d) (d0 : decode cc pc = .ok (.new 66, 3)) (d1 : decode cc (pc + 3) = .ok (.dup, 1)) (d2 : decode cc (pc + 4) = .ok (.invokespecial 68, 3)) (d3 : decode cc (pc + 7) = .ok (.athrow, 1)) (hp : xp xc_ISE I) : ly_V κ b sz I pc ls [] :=
  dz_thrown xc_ISE x.1 x.2.2.1 x.2.2.2 hd (fun args u a1 a2 a3 a4 a5 a6 => dz_own_ISE a1 a2 a3 a4 a5 a6) (by decide +kernel) dz_ownL_ISE dz_ownI_ISE dz_ownN_ISE d0 d1 d2 d3 (by omega) (by omega) ⟨rfl, rfl, rfl, hp⟩
theorem ly_IOB (x : ly_XX κ l D Dt b sz cc R_DotBook nL ret d post xp) (hd : 6 ≤ d) (d0 : decode cc pc = .ok (.new 103, 3)) (d1 : decode cc (pc + 3) = .ok (.dup, 1)) (d2 : decode cc (pc + 4) = .ok (.invokespecial 105, 3)) (d3 : decode cc (pc + 7) = .ok (.athrow, 1)) (hp : xp xc_IOB I) : ly_V κ b sz I pc ls [] :=
  dz_thrown xc_IOB x.1 x.2.2.1 x.2.2.2 hd (fun args u a1 a2 a3 a4 a5 a6 => dz_own_IOB a1 a2 a3 a4 a5 a6) (by decide +kernel) dz_ownL_IOB dz_ownI_IOB dz_ownN_IOB d0 d1 d2 d3 (by omega) (by omega) ⟨rfl, rfl, rfl, hp⟩
end ly_xthrow
/-! the state of the class -/
abbrev sp_Bk : Type := Int × List (Int × Int)
def sp_oh (O : List (Int × Int)) : Int → Int := fun j => if 0 ≤ j ∧ j < (O.length : Int) then (O.getD j.toNat (0, 0)).1 else 0
theorem sp_oh_out {O : List (Int × Int)} {j : Int} (h : j < 0 ∨ (O.length : Int) ≤ j) : sp_oh O j = 0 := by unfold sp_oh; rw [if_neg (by omega)]
def sp_bl (W : Int) (y : sp_Bk) : List (List Int) := sp_nl (sp_fd W y.1 (sp_oh y.2) y.2.length)
def sp_bok (y : sp_Bk) : Prop := (0 ≤ y.1 ∧ y.1 ≤ 3) ∧ y.2.length ≤ 200 ∧ (∀ e ∈ y.2, (0 ≤ e.1 ∧ e.1 < 64) ∧ 0 ≤ e.2 ∧ e.2 ≤ 80) ∧ (y.1 = 3 → y.2 = [])
theorem sp_oh_hh {y : sp_Bk} (h : sp_bok y) : sp_hh (y.2.length : Int) (sp_oh y.2) := by
  obtain ⟨h1, h2, h3, h4⟩ := h
  refine ⟨by omega, fun j hj => sp_oh_out hj, fun j => ?_⟩
  unfold sp_oh
  split
  · rename_i hj
    have hl : j.toNat < y.2.length := by omega
    rw [List.getD_eq_getElem?_getD, List.getElem?_eq_getElem hl]
    exact (h3 _ (List.getElem_mem hl)).1
  · omega
theorem sp_O.toB {b i : Nat} {J : dz_Hp} {y : sp_Bk} (H : sp_O b i J y.2) (h : sp_bok y) : sp_B b i J (y.2.length : Int) (sp_oh y.2) := by
  refine ⟨H.1, by have := h.2.1; omega, fun j j1 j2 => ?_, ?_⟩
  · have hl : j.toNat < y.2.length := by omega
    have h1 := H.2.2 j.toNat _ (List.getElem?_eq_getElem hl)
    have h2 := h.2.2.1 _ (List.getElem_mem hl)
    rw [show ((j.toNat : Nat) : Int) = j by omega] at h1
    omega
  · funext j
    unfold sp_ca sp_oh
    by_cases hj : 0 ≤ j ∧ j < (y.2.length : Int)
    · rw [if_pos hj, if_pos hj]
      have hl : j.toNat < y.2.length := by omega
      have h1 := H.2.2 j.toNat _ (List.getElem?_eq_getElem hl)
      have h2 := h.2.2.1 _ (List.getElem_mem hl)
      rw [show ((j.toNat : Nat) : Int) = j by omega] at h1
      rw [List.getD_eq_getElem?_getD, List.getElem?_eq_getElem hl, h1]
      show _ = (y.2[j.toNat]).1
      omega
    · rw [if_neg hj, if_neg hj]
theorem sp_bl_ok {W : Int} (hW : 10 ≤ W ∧ W ≤ 40) {y : sp_Bk} (h : y.2.length ≤ 200) : (sp_bl W y).length ≤ 200 ∧ (sp_bl W y).flatten.length ≤ 200 ∧ ∀ q, q < (sp_bl W y).length → 1 ≤ ((sp_bl W y).getD q []).length ∧ (((sp_bl W y).getD q []).length : Int) ≤ W - sp_ind y.1 q := by
  obtain ⟨i1, i2, i3, i4, i5, i6, i7⟩ := sp_fd_inv (k := y.1) hW.1 (sp_oh y.2) (sp_oh_out (by omega)) y.2.length
  have e : sp_bl W y = sp_nl (sp_fd W y.1 (sp_oh y.2) y.2.length) := rfl
  rw [e]
  generalize sp_fd W y.1 (sp_oh y.2) y.2.length = s at *
  obtain ⟨C, r⟩ := s
  simp only [sp_tot] at i1 i2 i3 i4 i5 i6
  have hne := sp_ne_len C i3
  have key : ∀ (q : Nat) (t : List Int), C[q]? = some t → 1 ≤ t.length ∧ (t.length : Int) ≤ W - sp_ind y.1 q := by
    intro q t ht
    exact ⟨List.length_pos_iff.mpr (i3 t (List.mem_of_getElem? ht)), i5 q t ht⟩
  by_cases hr : r = []
  · have : sp_nl (C, r) = C := if_pos hr
    rw [this]
    refine ⟨by omega, by omega, fun q hq => ?_⟩
    rw [List.getD_eq_getElem?_getD, List.getElem?_eq_getElem hq]
    exact key q _ (List.getElem?_eq_getElem hq)
  · have : sp_nl (C, r) = C ++ [r] := if_neg hr
    rw [this]
    have hrl := List.length_pos_iff.mpr hr
    simp only [List.flatten_append, List.flatten_cons, List.flatten_nil, List.length_append, List.length_cons, List.length_nil, List.append_nil]
    refine ⟨by omega, by omega, fun q hq => ?_⟩
    by_cases c : q < C.length
    · rw [List.getD_eq_getElem?_getD, List.getElem?_append_left c, List.getElem?_eq_getElem c]
      exact key q _ (List.getElem?_eq_getElem c)
    · have hq2 : q = C.length := by omega
      rw [hq2, List.getD_eq_getElem?_getD, List.getElem?_append_right (by omega)]
      simp only [Nat.sub_self, List.getElem?_cons_zero, Option.getD_some]
      exact ⟨hrl, i6⟩
/-- page, used lines, last page behind the first j blocks -/
def sp_bs (W T : Int) (Bk : Nat → sp_Bk) : Nat → Int × Int × Int
  | 0 => (1, 0, 1)
  | j + 1 => sp_pu T (sp_bl W (Bk j)).length ((sp_x0 T (Bk j).1 ((sp_bl W (Bk j)).length : Int) ((sp_bs W T Bk j).1, (sp_bs W T Bk j).2.1)).1, (sp_x0 T (Bk j).1 ((sp_bl W (Bk j)).length : Int) ((sp_bs W T Bk j).1, (sp_bs W T Bk j).2.1)).2, (sp_bs W T Bk j).2.2)
def sp_bx (W T : Int) (Bk : Nat → sp_Bk) (j : Nat) : Int × Int := sp_x0 T (Bk j).1 ((sp_bl W (Bk j)).length : Int) ((sp_bs W T Bk j).1, (sp_bs W T Bk j).2.1)
/-- page and line of block j's first line -/
def sp_pp (W T : Int) (Bk : Nat → sp_Bk) (j : Nat) : Int × Int := sp_tp T (sp_bx W T Bk j)
theorem sp_tp_rng {T pg us : Int} (hT : 1 ≤ T) (h : 0 ≤ us ∧ us ≤ T) : (0 ≤ (sp_tp T (pg, us)).2 ∧ (sp_tp T (pg, us)).2 < T) ∧ pg ≤ (sp_tp T (pg, us)).1 ∧ (sp_tp T (pg, us)).1 ≤ pg + 1 := by
  unfold sp_tp; split <;> simp_all <;> omega
theorem sp_pu_rng {T : Int} (hT : 1 ≤ T) : ∀ (k : Nat) (pg us la : Int), 0 ≤ us ∧ us ≤ T → la ≤ pg → (0 ≤ (sp_pu T k (pg, us, la)).2.1 ∧ (sp_pu T k (pg, us, la)).2.1 ≤ T) ∧ pg ≤ (sp_pu T k (pg, us, la)).1 ∧ (sp_pu T k (pg, us, la)).1 ≤ pg + k ∧ la ≤ (sp_pu T k (pg, us, la)).2.2 ∧ (sp_pu T k (pg, us, la)).2.2 ≤ (sp_pu T k (pg, us, la)).1 := by
  intro k
  induction k with
  | zero => intro pg us la h1 h2; simp only [sp_pu]; omega
  | succ k ih =>
    intro pg us la h1 h2
    simp only [sp_pu]
    have ht := sp_tp_rng (T := T) (pg := pg) hT h1
    obtain ⟨a1, a2, a3, a4, a5⟩ := ih (sp_tp T (pg, us)).1 ((sp_tp T (pg, us)).2 + 1) (sp_tp T (pg, us)).1 (by omega) (by omega)
    refine ⟨a1, by omega, by omega, by omega, a5⟩
theorem sp_bs_rng {W T : Int} (hW : 10 ≤ W ∧ W ≤ 40) (hT : 3 ≤ T) {Bk : Nat → sp_Bk} : ∀ j : Nat, (∀ i, i < j → sp_bok (Bk i)) → (1 ≤ (sp_bs W T Bk j).1 ∧ (sp_bs W T Bk j).1 ≤ 1 + 202 * (j : Int)) ∧ (0 ≤ (sp_bs W T Bk j).2.1 ∧ (sp_bs W T Bk j).2.1 ≤ T) ∧ 1 ≤ (sp_bs W T Bk j).2.2 ∧ (sp_bs W T Bk j).2.2 ≤ (sp_bs W T Bk j).1 := by
  intro j
  induction j with
  | zero => intro _; simp only [sp_bs]; omega
  | succ j ih =>
    intro h
    obtain ⟨i1, i2, i3, i4⟩ := ih (fun i hi => h i (by omega))
    have hb := (sp_bl_ok hW (h j (by omega)).2.1).1
    have hx := sp_x0_rng (T := T) (k := (Bk j).1) (lc := ((sp_bl W (Bk j)).length : Int)) (pg := (sp_bs W T Bk j).1) (us := (sp_bs W T Bk j).2.1) hT i2
    obtain ⟨a1, a2, a3, a4, a5⟩ := sp_pu_rng (T := T) (by omega) (sp_bl W (Bk j)).length (sp_x0 T (Bk j).1 ((sp_bl W (Bk j)).length : Int) ((sp_bs W T Bk j).1, (sp_bs W T Bk j).2.1)).1 (sp_x0 T (Bk j).1 ((sp_bl W (Bk j)).length : Int) ((sp_bs W T Bk j).1, (sp_bs W T Bk j).2.1)).2 (sp_bs W T Bk j).2.2 hx.1 (by omega)
    simp only [sp_bs]
    exact ⟨by omega, a1, by omega, a5⟩
theorem sp_pp_rng {W T : Int} (hW : 10 ≤ W ∧ W ≤ 40) (hT : 3 ≤ T) {Bk : Nat → sp_Bk} {j : Nat} (h : ∀ i, i < j → sp_bok (Bk i)) : (1 ≤ (sp_pp W T Bk j).1 ∧ (sp_pp W T Bk j).1 ≤ 3 + 202 * (j : Int)) ∧ 0 ≤ (sp_pp W T Bk j).2 ∧ (sp_pp W T Bk j).2 < T := by
  obtain ⟨i1, i2, i3, i4⟩ := sp_bs_rng hW hT j h
  have hx := sp_x0_rng (T := T) (k := (Bk j).1) (lc := ((sp_bl W (Bk j)).length : Int)) (pg := (sp_bs W T Bk j).1) (us := (sp_bs W T Bk j).2.1) hT i2
  have ht := sp_tp_rng (T := T) (pg := (sp_bx W T Bk j).1) (us := (sp_bx W T Bk j).2) (by omega) hx.1
  have e : ((sp_bx W T Bk j).1, (sp_bx W T Bk j).2) = sp_bx W T Bk j := rfl
  rw [e] at ht
  change (0 ≤ (sp_pp W T Bk j).2 ∧ (sp_pp W T Bk j).2 < T) ∧ _ ≤ (sp_pp W T Bk j).1 ∧ (sp_pp W T Bk j).1 ≤ _ at ht
  have hx2 : (sp_bs W T Bk j).1 ≤ (sp_bx W T Bk j).1 ∧ (sp_bx W T Bk j).1 ≤ (sp_bs W T Bk j).1 + 1 := hx.2
  omega
/-- block j of the class -/
def sp_CB (b : Nat) (J : dz_Hp) (W T : Int) (Bk : Nat → sp_Bk) (j : Nat) : Prop := J (b + (82 + 4 * j)) 0 = (Bk j).1 ∧ sp_O b j J (Bk j).2 ∧ sp_L b j J (sp_bl W (Bk j)) ∧ (0 < (sp_bl W (Bk j)).length → J (b + (82 + 4 * j)) 7 = (sp_pp W T Bk j).1 ∧ J (b + (82 + 4 * j)) 8 = (sp_pp W T Bk j).2) ∧ sp_bok (Bk j)
/-- the state of the class -/
def sp_CL (b : Nat) (J : dz_Hp) (W T n : Int) (g : Int → Int) (c : Nat) (S : Nat → sp_Ru) (w : Int) (nb : Nat) (Bk : Nat → sp_Bk) (H : List Int) : Prop :=
  ((10 ≤ W ∧ W ≤ 40) ∧ (3 ≤ T ∧ T ≤ 19)) ∧ sp_T b J n g ∧ sp_RC b J c S ∧ (J (b + 3) 2 = w ∧ -1 ≤ w ∧ w ≤ 100) ∧ sp_K b J W T (nb : Int) (sp_bs W T Bk nb).1 (sp_bs W T Bk nb).2.1 (sp_bs W T Bk nb).2.2 ∧ nb ≤ 12 ∧ (∀ j, j < nb → sp_CB b J W T Bk j) ∧ (∀ j, j < 12 → (0 ≤ J (b + (82 + 4 * j)) 7 ∧ J (b + (82 + 4 * j)) 7 ≤ 5000) ∧ 0 ≤ J (b + (82 + 4 * j)) 8 ∧ J (b + (82 + 4 * j)) 8 ≤ 20) ∧ sp_H b J H
