/-! MAKING: the heap while the two objects are made: the first k cells of the layout stand; of the references those that α says are set. -/
def ct_s (b k : Nat) : dz_Sk := fun q => if q < b + k then ly_s b q else none
def ct_r (b : Nat) (α : Nat → Int → Bool) : dz_Rf := fun q i => bif α q i then ly_r b q i else none
def ct_a (α : Nat → Int → Bool) (q : Nat) (k : Int) : Nat → Int → Bool := fun q' k' => α q' k' || (q' == q && k' == k)
/-- from the address q on nothing is set -/
def ct_z (α : Nat → Int → Bool) (I : dz_Hp) (q : Nat) : Prop := ∀ q' : Nat, q ≤ q' → (∀ i : Int, α q' i = false) ∧ ∀ i : Int, I q' i = 0
theorem ct_s_lt {b k o : Nat} (h : o < k) : ct_s b k (b + o) = ly_k o := by unfold ct_s; rw [if_pos (by omega), ly_at]
theorem ct_s_none {b k q : Nat} (h : b + k ≤ q) : ct_s b k q = none := by unfold ct_s; rw [if_neg (by omega)]
theorem ct_s_succ {b k q : Nat} (h : q ≠ b + k) : ct_s b (k + 1) q = ct_s b k q := by
  unfold ct_s
  by_cases h1 : q < b + k
  · rw [if_pos h1, if_pos (by omega)]
  · rw [if_neg h1, if_neg (by omega)]
theorem ct_r_set {b : Nat} {α : Nat → Int → Bool} {q v : Nat} {k : Int} (h : ly_r b q k = some v) : dz_ur (ct_r b α) q k (some v) = ct_r b (ct_a α q k) := by
  funext q' k'
  unfold dz_ur ct_r ct_a dz_u
  by_cases e : q' = q
  · subst e
    rw [if_pos rfl]
    by_cases e2 : k' = k
    · subst e2; simp [h]
    · have h2 : (k' == k) = false := by simpa using e2
      rw [if_neg e2, h2, Bool.and_false, Bool.or_false]
  · have h2 : (q' == q) = false := by simpa using e
    rw [if_neg e, h2, Bool.false_and, Bool.or_false]
theorem ct_a_n {α : Nat → Int → Bool} {q q' : Nat} {k k' : Int} (h : q' ≠ q ∨ k' ≠ k) : ct_a α q k q' k' = α q' k' := by
  unfold ct_a
  rcases h with h | h <;> simp [h]
theorem ct_a_s {α : Nat → Int → Bool} {q : Nat} {k : Int} : ct_a α q k q k = true := by unfold ct_a; simp
theorem ct_z_a {α : Nat → Int → Bool} {I : dz_Hp} {q0 q : Nat} {k : Int} (h : ct_z α I q0) (hq : q < q0) : ct_z (ct_a α q k) I q0 := fun q' h' => ⟨fun i => by rw [ct_a_n (Or.inl (by omega))]; exact (h q' h').1 i, (h q' h').2⟩
theorem ct_z_up {α : Nat → Int → Bool} {I : dz_Hp} {q0 q : Nat} {k v : Int} (h : ct_z α I q0) (hq : q < q0) : ct_z α (dz_up I q k v) q0 := fun q' h' => ⟨(h q' h').1, fun i => by rw [dz_up_n _ _ _ (by omega)]; exact (h q' h').2 i⟩
theorem ct_z_s {α : Nat → Int → Bool} {I : dz_Hp} {q0 : Nat} (h : ct_z α I q0) : ct_z α I (q0 + 1) := fun q' h' => h q' (by omega)
theorem ct_r_get {b : Nat} {α : Nat → Int → Bool} {q : Nat} {k : Int} (h : α q k = true) : ct_r b α q k = ly_r b q k := by unfold ct_r; rw [h]; rfl
theorem ct_r_full {b : Nat} {α : Nat → Int → Bool} (h : ∀ q k v, ly_r b q k = some v → α q k = true) : ct_r b α = ly_r b := by
  funext q k
  unfold ct_r
  cases hv : ly_r b q k with
  | none => cases α q k <;> rfl
  | some v => rw [h q k v hv]; rfl
theorem dz_df : ∀ (ci : Nat) (r : vw_C), vwCl[ci]? = some r → ∀ j, j < r.2.2 → defaultValue (dz_ft ci j) = vp_V (dz_fs (dz_fty ci) 0 (fun _ => none) (fun _ => 0)) j := by
  intro ci r h
  match ci, h with
  | 0, h => cases h; decide +kernel
  | 1, h => cases h; decide +kernel
  | 2, h => cases h; decide +kernel
  | 3, h => cases h; decide +kernel
  | 4, h => cases h; decide +kernel
  | 5, h => cases h; decide +kernel
  | 6, h => cases h; decide +kernel
  | 7, h => cases h; decide +kernel
  | 8, h => cases h; decide +kernel
  | (n + 9), h => simp [vwCl] at h
/-- the words of a class that is made -/
def ct_N (own : String) (index ci N : Nat) : Prop := ∃ (C : String) (T : u_T), vwCl[ci]? = some (C, T, N) ∧ Cond.classLink own index C ∈ dz_GW ∧ Cond.instantiable C N ∈ dz_GW ∧ Cond.initialized C ∈ dz_GW
theorem nl_Law_8 : ct_N R_Law 8 7 5 := ⟨R_DotBook, T_DotBook, rfl, (dz_g1 23 rfl rfl), (dz_g1 24 rfl rfl), (dz_g1 1 rfl rfl)⟩
theorem nl_DotBook_9 : ct_N R_DotBook 9 0 2 := ⟨R_Typed, T_Typed, rfl, (dz_g1 31 rfl rfl), (dz_g1 32 rfl rfl), (dz_g1 2 rfl rfl)⟩
theorem nl_DotBook_16 : ct_N R_DotBook 16 1 3 := ⟨R_RuleList, T_RuleList, rfl, (dz_g1 48 rfl rfl), (dz_g1 49 rfl rfl), (dz_g1 3 rfl rfl)⟩
theorem nl_RuleList_9 : ct_N R_RuleList 9 2 5 := ⟨R_Rule, T_Rule, rfl, (dz_g1 54 rfl rfl), (dz_g1 56 rfl rfl), (dz_g1 4 rfl rfl)⟩
theorem nl_DotBook_23 : ct_N R_DotBook 23 3 5 := ⟨R_Translator, T_Translator, rfl, (dz_g1 102 rfl rfl), (dz_g1 103 rfl rfl), (dz_g1 5 rfl rfl)⟩
theorem nl_DotBook_32 : ct_N R_DotBook 32 4 8 := ⟨R_Reader, T_Reader, rfl, (dz_g1 124 rfl rfl), (dz_g1 125 rfl rfl), (dz_g1 6 rfl rfl)⟩
theorem nl_DotBook_41 : ct_N R_DotBook 41 5 8 := ⟨R_Book, T_Book, rfl, (dz_g1 157 rfl rfl), (dz_g1 158 rfl rfl), (dz_g1 7 rfl rfl)⟩
theorem nl_Book_9 : ct_N R_Book 9 6 9 := ⟨R_Block, T_Block, rfl, (dz_g1 169 rfl rfl), (dz_g1 171 rfl rfl), (dz_g1 9 rfl rfl)⟩
theorem nl_Law_52 : ct_N R_Law 52 8 29 := ⟨R_Model, T_Model, rfl, (dz_g4 64 rfl rfl), (dz_g4 65 rfl rfl), (dz_g1 10 rfl rfl)⟩
theorem al_char : Cond.arrayClass .char ∈ dz_GW := (dz_g1 47 rfl rfl)
theorem al_int : Cond.arrayClass .int ∈ dz_GW := (dz_g1 85 rfl rfl)
theorem al_long : Cond.arrayClass .long ∈ dz_GW := (dz_g5 98 rfl rfl)
theorem ql_RuleList_9 : Cond.classLink R_RuleList 9 "DotBook$Rule" ∈ dz_GW := (dz_g1 54 rfl rfl)
theorem ql_Book_9 : Cond.classLink R_Book 9 "DotBook$Block" ∈ dz_GW := (dz_g1 169 rfl rfl)
theorem oi_2 : Cond.instanceMethod Jvm.Lib.objectInit ∈ dz_GW := (dz_g1 29 rfl rfl)
theorem oi_3 : Cond.code Jvm.Lib.objectInit ⟨#[0xb1]⟩ 1 none ∈ dz_GW := (dz_g1 30 rfl rfl)
theorem oi_DotBook : Cond.methodLink R_DotBook 3 Jvm.Lib.objectInit ∈ dz_GW := (dz_g1 28 rfl rfl)
theorem oi_Typed : Cond.methodLink R_Typed 3 Jvm.Lib.objectInit ∈ dz_GW := (dz_g1 36 rfl rfl)
theorem oi_RuleList : Cond.methodLink R_RuleList 3 Jvm.Lib.objectInit ∈ dz_GW := (dz_g1 53 rfl rfl)
theorem oi_Rule : Cond.methodLink R_Rule 3 Jvm.Lib.objectInit ∈ dz_GW := (dz_g1 60 rfl rfl)
theorem oi_Translator : Cond.methodLink R_Translator 3 Jvm.Lib.objectInit ∈ dz_GW := (dz_g1 107 rfl rfl)
theorem oi_Reader : Cond.methodLink R_Reader 3 Jvm.Lib.objectInit ∈ dz_GW := (dz_g1 129 rfl rfl)
theorem oi_Book : Cond.methodLink R_Book 3 Jvm.Lib.objectInit ∈ dz_GW := (dz_g1 168 rfl rfl)
theorem oi_Block : Cond.methodLink R_Block 3 Jvm.Lib.objectInit ∈ dz_GW := (dz_g1 175 rfl rfl)
theorem oi_Model : Cond.methodLink R_Model 1 Jvm.Lib.objectInit ∈ dz_GW := (dz_g4 69 rfl rfl)
section ct_rows
variable {κ : dz_Kx} {cc : ByteArray} {own : String} {cells slots b k d m0 s0 : Nat} {α : Nat → Int → Bool} {I : dz_Hp} {pc : Nat} {ls : List (Nat × Value)} {st : List Value}
/-- the world grows by one cell -/
theorem ct_grow {D : va_G} {Dt : Nat → ClassId} {H H1 : Heap} {x : (Nat × Nat) ⊕ Nat} (hW : dz_W D Dt (ct_s b k) (ct_r b α) I H) (hz : H.size = b + k) (hk : ly_k k = some x) (hZ : ct_z α I (b + k)) (hn : va_at D vwCl (b + k, dz_ce Dt x (fun _ => none) (fun _ => 0)) H1) (ho : ∀ q : Nat, q < H.size → H1[q]? = H[q]?) : dz_W D Dt (ct_s b (k + 1)) (ct_r b α) I H1 := by
  intro q y hy
  by_cases e : q = b + k
  · subst e
    rw [ct_s_lt (Nat.lt_succ_self k), hk] at hy
    cases hy
    have e1 : ct_r b α (b + k) = fun _ => none := by funext i; unfold ct_r; rw [(hZ _ (Nat.le_refl _)).1 i]; rfl
    have e2 : I (b + k) = fun _ => 0 := by funext i; exact (hZ _ (Nat.le_refl _)).2 i
    rw [e1, e2]
    exact hn
  · rw [ct_s_succ e] at hy
    exact (hW q y hy).kept (ho q (hW.lt hy))
theorem ct_new (am : dz_Am κ cc own) (rm : dz_Rm κ d m0 s0) {ci N index : Nat} (hN : ct_N own index ci N) (hk : ly_k k = some (.inr ci)) (hZ : ct_z α I (b + k)) (hd : decode cc pc = .ok (.new index, 3)) (hcm : cells + 1 ≤ m0) (hsm : slots + N ≤ s0) (kk : dz_V κ (cells + 1) (slots + N) (b + (k + 1)) (ct_s b (k + 1)) (ct_r b α) I (pc + 3) ls (.ref (b + k) :: st)) : dz_V κ cells slots (b + k) (ct_s b k) (ct_r b α) I pc ls st := by
  obtain ⟨p, l, e, R, s, m, args, below, meth, c, Q, D, Dt, A, nL⟩ := κ
  obtain ⟨hx, hb, hml, hown, hts, hK, hA, hlk, hns⟩ := am
  obtain ⟨r1, r2, r3, r4⟩ := rm
  obtain ⟨C, T, c1, w1, w2, w3⟩ := hN
  intro H locs la hz hW hsA hS hc hl
  obtain ⟨f1, f2, f3, f4⟩ := dz_cf ci _ c1
  have hKn := hK.1.1 ci _ c1
  refine W.newcK hx hb hown (hts _ w1) (hts _ w2) (hts _ w3) rfl hd (by omega) (by omega) hKn.2.1 hz fun H1 kC hkC e1 z1 o1 => ?_
  have hsA' : ∀ q y, ct_s b (k + 1) q = some y → A q := by
    intro q y hy
    by_cases e : q = b + k
    · exact hA q (by have := hS.1; omega)
    · rw [ct_s_succ e] at hy; exact hsA q y hy
  refine kk H1 locs la (by omega) (ct_grow hW hz hk hZ ⟨_, c1, (u_born (dz_ft ci) hts f1 hKn hkC e1 f3).to (dz_df ci _ c1)⟩ (fun q hq => o1 q (by omega))) hsA' ⟨by have := hS.1; omega, fun q h1 h2 => (o1 q (by have := hS.1; omega)).trans (hS.2.1 q h1 h2), hS.2.2⟩ hc hl
theorem ct_nar (hk : k = k) : True := trivial
def ct_T (t : Nat) : ArrayType := match t with
  | 0 => .int
  | 1 => .char
  | _ => .long
theorem ct_newa (am : dz_Am κ cc own) (rm : dz_Rm κ d m0 s0) (t N : Nat) (ht : t < 3) (hk : ly_k k = some (.inl (t, N))) (hN : N < 100000) (hw : Cond.arrayClass (newarray.typeOf (ct_T t)) ∈ dz_GW) (hZ : ct_z α I (b + k)) (hd : decode cc pc = .ok (.newarray (ct_T t), 2)) (hcm : cells + 1 ≤ m0) (hsm : slots + N ≤ s0) (kk : dz_V κ (cells + 1) (slots + N) (b + (k + 1)) (ct_s b (k + 1)) (ct_r b α) I (pc + 2) ls (.ref (b + k) :: st)) : dz_V κ cells slots (b + k) (ct_s b k) (ct_r b α) I pc ls (.int (dz_i (N : Nat)) :: st) := by
  obtain ⟨p, l, e, R, s, m, args, below, meth, c, Q, D, Dt, A, nL⟩ := κ
  obtain ⟨hx, hb, hml, hown, hts, hK, hA, hlk, hns⟩ := am
  obtain ⟨r1, r2, r3, r4⟩ := rm
  intro H locs la hz hW hsA hS hc hl
  have hcl : (dz_i (N : Nat)).toNatClampNeg = N := by rw [dz_cl (by omega)]; omega
  have hneg : ¬ dz_i (N : Nat) < 0 := by rw [dz_0, dz_lt (by omega) (by omega)]; omega
  refine va_newaK hx hb (hts _ hw) rfl hd rfl hneg hcl ?_ (by omega) (by omega) hz fun H1 cA e1 z1 o1 hAr hNm => ?_
  · have : componentBytes (newarray.typeOf (ct_T t)) ≤ 8 := by
      match t with
      | 0 => decide
      | 1 => decide
      | (n + 2) => show componentBytes (newarray.typeOf .long) ≤ 8; decide
    calc N * componentBytes (newarray.typeOf (ct_T t)) ≤ N * 8 := Nat.mul_le_mul_left _ this
      _ ≤ 536870912 := by omega
  have hsA' : ∀ q y, ct_s b (k + 1) q = some y → A q := by
    intro q y hy
    by_cases e : q = b + k
    · exact hA q (by have := hS.1; omega)
    · rw [ct_s_succ e] at hy; exact hsA q y hy
  have hcA : cA = Dt t ∧ (fun j => defaultValue (newarray.typeOf (ct_T t)) : Nat → Value) = (match t with | 2 => (fun _ => Value.long (dz_i 0).toInt64) | _ => (fun _ => Value.int (dz_i 0))) := by
    match t, ht with
    | 0, _ => exact ⟨Option.some.inj (hNm.symm.trans (hK.1.2 0 _ rfl).2), rfl⟩
    | 1, _ => exact ⟨Option.some.inj (hNm.symm.trans (hK.1.2 1 _ rfl).2), rfl⟩
    | 2, _ => exact ⟨Option.some.inj (hNm.symm.trans (hK.1.2 2 _ rfl).2), rfl⟩
  obtain ⟨rfl, hdv⟩ := hcA
  refine kk H1 locs la (by omega) (ct_grow hW hz hk hZ ?_ (fun q hq => o1 q (by omega))) hsA' ⟨by have := hS.1; omega, fun q h1 h2 => (o1 q (by have := hS.1; omega)).trans (hS.2.1 q h1 h2), hS.2.2⟩ hc hl
  show H1[b + k]? = some (vp_cell (Dt t) (N, dz_ar t (fun _ => none) (fun _ => 0)))
  rw [e1, hdv]
  match t, ht with
  | 0, _ => rfl
  | 1, _ => rfl
  | 2, _ => rfl
theorem ct_newq (am : dz_Am κ cc own) (rm : dz_Rm κ d m0 s0) {index : Nat} (t N : Nat) (C : String) (hk : ly_k k = some (.inl (t + 3, N))) (hC : (dz_tys (fun x => x))[t + 3]? = some (t + 3, .object C)) (hN : N < 100000) (hw : Cond.classLink own index C ∈ dz_GW) (hZ : ct_z α I (b + k)) (hd : decode cc pc = .ok (.anewarray index, 3)) (hcm : cells + 1 ≤ m0) (hsm : slots + N ≤ s0) (kk : dz_V κ (cells + 1) (slots + N) (b + (k + 1)) (ct_s b (k + 1)) (ct_r b α) I (pc + 3) ls (.ref (b + k) :: st)) : dz_V κ cells slots (b + k) (ct_s b k) (ct_r b α) I pc ls (.int (dz_i (N : Nat)) :: st) := by
  obtain ⟨p, l, e, R, s, m, args, below, meth, c, Q, D, Dt, A, nL⟩ := κ
  obtain ⟨hx, hb, hml, hown, hts, hK, hA, hlk, hns⟩ := am
  obtain ⟨r1, r2, r3, r4⟩ := rm
  intro H locs la hz hW hsA hS hc hl
  have hcl : (dz_i (N : Nat)).toNatClampNeg = N := by rw [dz_cl (by omega)]; omega
  have hneg : ¬ dz_i (N : Nat) < 0 := by rw [dz_0, dz_lt (by omega) (by omega)]; omega
  have hAO : va_AO C s := by
    match t, hC with
    | 0, hC => cases hC; exact hK.2.2.1
    | 1, hC => cases hC; exact hK.2.2.2.1
    | (n + 2), hC => simp [dz_tys] at hC
  have hRA : s.vm.findClass ("[" ++ (FieldType.object C).toString) = some (Dt (t + 3)) := by
    match t, hC with
    | 0, hC => cases hC; obtain ⟨_, _, -, -, -, h⟩ := (hK.1.2 3 _ rfl).2; exact h
    | 1, hC => cases hC; obtain ⟨_, _, -, -, -, h⟩ := (hK.1.2 4 _ rfl).2; exact h
    | (n + 2), hC => simp [dz_tys] at hC
  refine W.anew hx hb hown (hts _ hw) (va_AO.use hAO) rfl hd rfl hneg (by rw [hcl]; omega) (by omega) (by rw [hcl]; omega) fun cA kA comp f1 f2 f3 f4 => ?_
  rw [hcl]
  generalize hH1 : H.push ({ cls := cA, slots := Array.replicate N .null, vm := .none } : Cell) = H1
  have z1 : H1.size = H.size + 1 := by rw [← hH1, Array.size_push]
  have e1 : H1[H.size]? = some (arrV cA N (fun _ => .null)) := by rw [← hH1, Array.getElem?_push_size, ← arrV_new]
  have o1 : ∀ q : Nat, q < H.size → H1[q]? = H[q]? := fun q hq => by rw [← hH1, Array.getElem?_push, if_neg (Nat.ne_of_lt hq)]
  have hsA' : ∀ q y, ct_s b (k + 1) q = some y → A q := by
    intro q y hy
    by_cases e : q = b + k
    · exact hA q (by have := hS.1; omega)
    · rw [ct_s_succ e] at hy; exact hsA q y hy
  cases Option.some.inj (f1.symm.trans hRA)
  rw [hz] at e1
  have key : W p l e R s m args below meth c H1 locs (cells + 1) (slots + N) Q (F0 m (pc + 3) la (.ref (b + k) :: st)) := kk H1 locs la (by omega) (ct_grow hW hz hk hZ (show H1[b + k]? = some (vp_cell (Dt (t + 3)) (N, dz_ar (t + 3) (fun _ => none) (fun _ => 0))) from e1) (fun q hq => o1 q hq)) hsA' ⟨by have := hS.1; omega, fun q h1 h2 => (o1 q (by have := hS.1; omega)).trans (hS.2.1 q h1 h2), hS.2.2⟩ hc hl
  rw [← hz] at key
  exact key
end ct_rows
