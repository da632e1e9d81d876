/-! THE LAYER: an abstract heap (what kind of cell lies where, references, ints as integers), a judgement over it (dz_V), one row an instruction. -/
def dz_i (z : Int) : Int32 := Int32.ofInt z
theorem dz_toInt {z : Int} (h : -2147483648 ≤ z ∧ z < 2147483648) : (dz_i z).toInt = z := by
  unfold dz_i
  rw [Int32.toInt_ofInt]
  exact Int.bmod_eq_of_le (by have e : (Int32.size : Int) = 4294967296 := by decide
                              omega) (by have e : (Int32.size : Int) = 4294967296 := by decide
                                         omega)
theorem dz_of (x : Int32) : x = dz_i x.toInt := by
  unfold dz_i
  rw [Int32.ofInt_toInt]
theorem dz_rng (x : Int32) : -2147483648 ≤ x.toInt ∧ x.toInt < 2147483648 := ⟨by have := Int32.le_toInt x; simpa using this, by have := Int32.toInt_lt x; simpa using this⟩
theorem dz_add (a b : Int) : dz_i a + dz_i b = dz_i (a + b) := by
  unfold dz_i
  rw [Int32.ofInt_add]
theorem dz_mul (a b : Int) : dz_i a * dz_i b = dz_i (a * b) := by
  unfold dz_i
  rw [Int32.ofInt_mul]
theorem dz_sub (a b : Int) : dz_i a - dz_i b = dz_i (a - b) := by
  unfold dz_i
  rw [Int32.ofInt_sub]
theorem dz_lt {a b : Int} (ha : -2147483648 ≤ a ∧ a < 2147483648) (hb : -2147483648 ≤ b ∧ b < 2147483648) : dz_i a < dz_i b ↔ a < b := by
  rw [Int32.lt_iff_toInt_lt, dz_toInt ha, dz_toInt hb]
theorem dz_le {a b : Int} (ha : -2147483648 ≤ a ∧ a < 2147483648) (hb : -2147483648 ≤ b ∧ b < 2147483648) : dz_i a ≤ dz_i b ↔ a ≤ b := by
  rw [Int32.le_iff_toInt_le, dz_toInt ha, dz_toInt hb]
theorem dz_eq {a b : Int} (ha : -2147483648 ≤ a ∧ a < 2147483648) (hb : -2147483648 ≤ b ∧ b < 2147483648) : dz_i a = dz_i b ↔ a = b := by
  rw [← Int32.toInt_inj, dz_toInt ha, dz_toInt hb]
theorem dz_0 : (0 : Int32) = dz_i 0 := by decide
theorem dz_cl {z : Int} (h : 0 ≤ z ∧ z < 2147483648) : (dz_i z).toNatClampNeg = z.toNat := by
  show ((dz_i z).toInt).toNat = _
  rw [dz_toInt ⟨by omega, h.2⟩]
theorem dz_in {z : Int} {n : Nat} (h : 0 ≤ z ∧ z < n) (hn : n < 2147483648) : vp_in (dz_i z) n := by
  rw [vp_in_iff, dz_toInt ⟨by omega, by omega⟩]
  omega
theorem dz_div {a b : Int} (ha : 0 ≤ a ∧ a < 2147483648) (hb : 0 < b ∧ b < 2147483648) : dz_i a / dz_i b = dz_i (a / b) := by
  have h1 : 0 ≤ a / b := Int.ediv_nonneg ha.1 (by omega)
  have h2 : a / b ≤ a := Int.ediv_le_self b ha.1
  rw [← Int32.toInt_inj, Int32.toInt_div, dz_toInt ⟨by omega, ha.2⟩, dz_toInt ⟨by omega, hb.2⟩, dz_toInt ⟨by omega, by omega⟩, Int.tdiv_eq_ediv_of_nonneg ha.1]
  exact Int.bmod_eq_of_le (by omega) (by omega)
theorem dz_rem {a b : Int} (ha : 0 ≤ a ∧ a < 2147483648) (hb : 0 < b ∧ b < 2147483648) : dz_i a - dz_i a / dz_i b * dz_i b = dz_i (a % b) := by
  rw [dz_div ha hb, dz_mul, dz_sub, Int.emod_def, Int.mul_comm]
theorem dz_chr {z : Int} (h : 0 ≤ z ∧ z < 65536) : ((dz_i z).toUInt32 % 65536).toInt32 = dz_i z := by
  have e : dz_i z = nI z.toNat := by
    rw [← Int32.toInt_inj, dz_toInt ⟨by omega, by omega⟩, nI_toInt (by omega)]
    omega
  rw [e]
  exact Value.int.inj (by
    have := (pk_charN (q := z.toNat) (by omega)).1
    have h2 := pk_char (nI z.toNat)
    rw [h2, pk_tn (by omega), Nat.mod_eq_of_lt (by omega)])
theorem dz_nch {z : Int} (h : 0 ≤ z ∧ z < 65536) : narrow .char (.int (dz_i z)) = .int (dz_i z) := by
  have e : dz_i z = nI z.toNat := by
    rw [← Int32.toInt_inj, dz_toInt ⟨by omega, by omega⟩, nI_toInt (by omega)]
    omega
  rw [e]
  exact (pk_charN (q := z.toNat) (by omega)).1
theorem dz_nbo {z : Int} (h : z = 0 ∨ z = 1) : narrow .boolean (.int (dz_i z)) = .int (dz_i z) := by
  rcases h with rfl | rfl <;> decide
theorem dz_fbo {z : Int} (h : z = 0 ∨ z = 1) : fits .boolean (.int (dz_i z)) = true := by
  rcases h with rfl | rfl <;> decide
def dz_u {α : Type} (f : Int → α) (k : Int) (v : α) : Int → α := fun j => if j = k then v else f j
theorem dz_u_s {α : Type} (f : Int → α) (k : Int) (v : α) : dz_u f k v k = v := by simp [dz_u]
theorem dz_u_n {α : Type} (f : Int → α) {k j : Int} (v : α) (h : j ≠ k) : dz_u f k v j = f j := by simp [dz_u, h]
abbrev dz_Sk : Type := Nat → Option ((Nat × Nat) ⊕ Nat)
abbrev dz_Rf : Type := Nat → Int → Option Nat
abbrev dz_Hp : Type := Nat → Int → Int
def dz_fs : List Bool → Nat → (Int → Option Nat) → (Int → Int) → List Value
  | [], _, _, _ => []
  | b :: bs, k, r, f => (bif b then va_rf (r (k : Int)) else .int (dz_i (f (k : Int)))) :: dz_fs bs (k + 1) r f
theorem dz_fs_get (r : Int → Option Nat) (f : Int → Int) : ∀ (bs : List Bool) (k j : Nat) (b : Bool), bs[j]? = some b → (dz_fs bs k r f)[j]? = some (bif b then va_rf (r ((k + j : Nat) : Int)) else .int (dz_i (f ((k + j : Nat) : Int)))) := by
  intro bs
  induction bs with
  | nil => intro k j b h; simp at h
  | cons a t ih =>
    intro k j b h
    cases j with
    | zero => simp at h; subst h; simp [dz_fs]
    | succ j =>
      simp at h
      have h2 := ih (k + 1) j b h
      simp only [dz_fs, List.getElem?_cons_succ]
      rw [h2, show k + 1 + j = k + (j + 1) by omega]
theorem dz_fs_len (r : Int → Option Nat) (f : Int → Int) : ∀ (bs : List Bool) (k : Nat), (dz_fs bs k r f).length = bs.length := by
  intro bs
  induction bs with
  | nil => intro k; rfl
  | cons a t ih => intro k; simp [dz_fs, ih]
theorem dz_fs_ext (r r' : Int → Option Nat) (f f' : Int → Int) : ∀ (bs : List Bool) (k : Nat), (∀ j : Int, (k : Int) ≤ j → r j = r' j) → (∀ j : Int, (k : Int) ≤ j → f j = f' j) → dz_fs bs k r f = dz_fs bs k r' f' := by
  intro bs
  induction bs with
  | nil => intro k _ _; rfl
  | cons a t ih =>
    intro k hr hf
    simp only [dz_fs]
    rw [hr k (Int.le_refl _), hf k (Int.le_refl _), ih (k + 1) (fun j h => hr j (by omega)) (fun j h => hf j (by omega))]
theorem dz_fs_seti (r : Int → Option Nat) (f : Int → Int) (v : Int) : ∀ (bs : List Bool) (k j : Nat), bs[j]? = some false → (dz_fs bs k r f).set j (.int (dz_i v)) = dz_fs bs k r (dz_u f ((k + j : Nat) : Int) v) := by
  intro bs
  induction bs with
  | nil => intro k j h; simp at h
  | cons a t ih =>
    intro k j h
    cases j with
    | zero =>
      simp at h; subst h
      simp only [dz_fs, List.set_cons_zero, cond_false, Nat.add_zero, dz_u_s]
      rw [dz_fs_ext r r f (dz_u f k v) t (k + 1) (fun _ _ => rfl) (fun j hj => by rw [dz_u_n]; omega)]
    | succ j =>
      simp at h
      have h2 := ih (k + 1) j h
      simp only [dz_fs, List.set_cons_succ]
      rw [h2, show k + 1 + j = k + (j + 1) by omega, dz_u_n f v (by omega)]
theorem dz_fs_setr (r : Int → Option Nat) (f : Int → Int) (v : Option Nat) : ∀ (bs : List Bool) (k j : Nat), bs[j]? = some true → (dz_fs bs k r f).set j (va_rf v) = dz_fs bs k (dz_u r ((k + j : Nat) : Int) v) f := by
  intro bs
  induction bs with
  | nil => intro k j h; simp at h
  | cons a t ih =>
    intro k j h
    cases j with
    | zero =>
      simp at h; subst h
      simp only [dz_fs, List.set_cons_zero, cond_true, Nat.add_zero, dz_u_s]
      rw [dz_fs_ext r (dz_u r k v) f f t (k + 1) (fun j hj => by rw [dz_u_n]; omega) (fun _ _ => rfl)]
    | succ j =>
      simp at h
      have h2 := ih (k + 1) j h
      simp only [dz_fs, List.set_cons_succ]
      rw [h2, show k + 1 + j = k + (j + 1) by omega, dz_u_n r v (by omega)]
/-- an array's contents: kinds 0 int, 1 char, 2 long, others references -/
def dz_ar (k : Nat) (r : Int → Option Nat) (f : Int → Int) : (Nat → Int32) ⊕ (Nat → Int64) ⊕ (Nat → UInt32) ⊕ (Nat → UInt64) ⊕ (Nat → Option Nat) := match k with
  | 0 => .inl (fun j => dz_i (f (j : Int)))
  | 1 => .inl (fun j => dz_i (f (j : Int)))
  | 2 => .inr (.inl (fun j => (dz_i (f (j : Int))).toInt64))
  | _ => .inr (.inr (.inr (.inr (fun j => r (j : Int)))))
def dz_ce (Dt : Nat → ClassId) (x : (Nat × Nat) ⊕ Nat) (r : Int → Option Nat) (f : Int → Int) : va_E := match x with
  | .inr ci => .inr (ci, dz_fs (dz_fty ci) 0 r f)
  | .inl (k, n) => .inl (Dt k, n, dz_ar k r f)
/-- the heap holds what the abstract one says -/
def dz_W (D : va_G) (Dt : Nat → ClassId) (sk : dz_Sk) (rf : dz_Rf) (I : dz_Hp) (H : Heap) : Prop := ∀ (q : Nat) (x : (Nat × Nat) ⊕ Nat), sk q = some x → va_at D vwCl (q, dz_ce Dt x (rf q) (I q)) H
def dz_up (I : dz_Hp) (q : Nat) (k v : Int) : dz_Hp := fun q' => if q' = q then dz_u (I q) k v else I q'
def dz_ur (rf : dz_Rf) (q : Nat) (k : Int) (v : Option Nat) : dz_Rf := fun q' => if q' = q then dz_u (rf q) k v else rf q'
theorem dz_up_q (I : dz_Hp) (q : Nat) (k v : Int) : dz_up I q k v q = dz_u (I q) k v := by simp [dz_up]
theorem dz_up_n (I : dz_Hp) {q q' : Nat} (k v : Int) (h : q' ≠ q) : dz_up I q k v q' = I q' := by simp [dz_up, h]
theorem dz_up_s (I : dz_Hp) (q : Nat) (k v : Int) : dz_up I q k v q k = v := by simp [dz_up, dz_u]
theorem dz_up_k (I : dz_Hp) (q : Nat) {k k' : Int} (v : Int) (h : k' ≠ k) : dz_up I q k v q k' = I q k' := by simp [dz_up, dz_u, h]
theorem dz_W.one {D : va_G} {Dt : Nat → ClassId} {sk : dz_Sk} {rf : dz_Rf} {I : dz_Hp} {H : Heap} (h : dz_W D Dt sk rf I H) {q : Nat} {x : (Nat × Nat) ⊕ Nat} (hq : sk q = some x) : va_P D vwCl [(q, dz_ce Dt x (rf q) (I q))] H := by
  intro k y hy
  cases k with
  | zero => simp at hy; subst hy; exact h q x hq
  | succ k => simp at hy
theorem dz_W.put {D : va_G} {Dt : Nat → ClassId} {sk : dz_Sk} {rf rf' : dz_Rf} {I I' : dz_Hp} {H H1 : Heap} (h : dz_W D Dt sk rf I H) (a : Nat) (x : (Nat × Nat) ⊕ Nat) (hx : sk a = some x) (hn : va_at D vwCl (a, dz_ce Dt x (rf' a) (I' a)) H1) (ho : ∀ q : Nat, q ≠ a → H1[q]? = H[q]?) (hr : ∀ q : Nat, q ≠ a → rf' q = rf q) (hi : ∀ q : Nat, q ≠ a → I' q = I q) : dz_W D Dt sk rf' I' H1 := by
  intro q y hy
  by_cases e : q = a
  · subst e
    rw [hx] at hy
    cases hy
    exact hn
  · have h3 := (h q y hy).kept (H1 := H1) (ho q e)
    rw [hr q e, hi q e]
    exact h3
theorem dz_W.lt {D : va_G} {Dt : Nat → ClassId} {sk : dz_Sk} {rf : dz_Rf} {I : dz_Hp} {H : Heap} (h : dz_W D Dt sk rf I H) {q : Nat} {x : (Nat × Nat) ⊕ Nat} (hq : sk q = some x) : q < H.size := (h q x hq).lt
/-- the ambient of a walk: machine, launch, .., what is wanted at the end, the classes' numbers, which cells may change, how many locals -/
abbrev dz_Kx : Type := Program × Launch × Env × Room × State × MethodId × Array Value × List Frame × Method × Code × (State → Prop) × va_G × (Nat → ClassId) × (Nat → Prop) × Nat
def dz_V (κ : dz_Kx) (cells slots sz : Nat) (sk : dz_Sk) (rf : dz_Rf) (I : dz_Hp) (pc : Nat) (ls : List (Nat × Value)) (st : List Value) : Prop := match κ with
  | (p, l, e, R, s, m, args, below, meth, c, Q, D, Dt, A, nL) =>
    ∀ (H : Heap) (locs : List Loc) (la : Array Slot), H.size = sz → dz_W D Dt sk rf I H → (∀ q x, sk q = some x → A q) → va_S A s.heap H locs → (∀ q, q ∈ ls → q.2.category = 1) → lv_has la nL ls → W p l e R s m args below meth c H locs cells slots Q (F0 m pc la st)
/-- what every walk knows -/
def dz_Am (κ : dz_Kx) (cc : ByteArray) (own : String) : Prop := match κ with
  | (p, _, _, _, s, m, args, _, meth, c, _, D, Dt, A, nL) =>
    p.tables.exec = Jvm.exec ∧ c.code = cc ∧ c.maxLocals = nL ∧ s.vm.findClass own = some m.cls ∧ (∀ w ∈ dz_GW, w.before args s = true) ∧ dz_K D Dt A s ∧ (∀ q : Nat, s.heap.size ≤ q → A q) ∧ meth.locks = false ∧ (∀ (q : Nat) (x : Cell), A q → s.heap[q]? = some x → x.vm.isStatics = false)
def dz_n (κ : dz_Kx) : Nat := κ.2.2.2.2.2.2.2.2.2.2.2.2.2.2
/-- a local is set -/
def dz_st (ls : List (Nat × Value)) (i : Nat) (v : Value) : List (Nat × Value) := bif ls.any (fun q => q.1 == i) then ls.map (fun q => bif q.1 == i then (i, v) else q) else ls ++ [(i, v)]
theorem dz_st_has {la' : Array Slot} {nL i : Nat} {v : Value} {ls : List (Nat × Value)} (hv : v.category = 1) (hc : ∀ q, q ∈ ls → q.2.category = 1) (h : lv_has la' nL ((i, v) :: ls.filter (fun q => !(q.1 == i) && !(q.1 + 1 == i && q.2.category == 2)))) : lv_has la' nL (dz_st ls i v) ∧ ∀ q, q ∈ dz_st ls i v → q.2.category = 1 := by
  have key : ∀ q, q ∈ dz_st ls i v → q = (i, v) ∨ (q ∈ ls ∧ ¬ q.1 = i) := by
    intro q hq
    unfold dz_st at hq
    cases hb : ls.any (fun q => q.1 == i) with
    | true =>
      rw [hb, cond_true] at hq
      obtain ⟨z, hz, e⟩ := List.mem_map.mp hq
      by_cases hi : z.1 = i
      · left; rw [← e]; simp [hi]
      · right
        have : (z.1 == i) = false := by simpa using hi
        rw [this, cond_false] at e
        rw [← e]
        exact ⟨hz, hi⟩
    | false =>
      rw [hb, cond_false] at hq
      rcases List.mem_append.mp hq with h1 | h1
      · right
        refine ⟨h1, fun e => ?_⟩
        have h2 := List.any_eq_false.mp hb q h1
        simp [e] at h2
      · left
        exact List.mem_singleton.mp h1
  refine ⟨⟨h.1, h.2.1, fun q hq => ?_⟩, fun q hq => ?_⟩
  · rcases key q hq with e | ⟨h1, h2⟩
    · rw [e]; exact h.2.2 (i, v) List.mem_cons_self
    · refine h.2.2 q (List.mem_cons_of_mem _ (List.mem_filter.mpr ⟨h1, ?_⟩))
      have h3 := hc q h1
      simp [h2, h3]
  · rcases key q hq with e | ⟨h1, h2⟩
    · rw [e]; exact hv
    · exact hc q h1
section dz_rows
variable {κ : dz_Kx} {cc : ByteArray} {own : String} {cells slots sz : Nat} {sk : dz_Sk} {rf : dz_Rf} {I : dz_Hp} {pc nL0 : Nat} {ls : List (Nat × Value)} {st : List Value}
theorem dz_iconst (am : dz_Am κ cc own) {n : Int} (hd : decode cc pc = .ok (.iconst n, 1)) (k : dz_V κ cells slots sz sk rf I (pc + 1) ls (.int (dz_i n) :: st)) : dz_V κ cells slots sz sk rf I pc ls st := by
  obtain ⟨p, l, e, R, s, m, args, below, meth, c, Q, D, Dt, A, nL⟩ := κ
  obtain ⟨hx, hb, hml, hown, hts, hK, hA, hlk, hns⟩ := am
  intro H locs la hz hW hsA hS hc hl
  exact lv_iconst hx hb hd rfl (k H locs la hz hW hsA hS hc hl)
theorem dz_bipush (am : dz_Am κ cc own) {n : Int} (hd : decode cc pc = .ok (.bipush n, 2)) (hv : (Int8.ofInt n).toInt32 = dz_i n) (k : dz_V κ cells slots sz sk rf I (pc + 2) ls (.int (dz_i n) :: st)) : dz_V κ cells slots sz sk rf I pc ls st := by
  obtain ⟨p, l, e, R, s, m, args, below, meth, c, Q, D, Dt, A, nL⟩ := κ
  obtain ⟨hx, hb, hml, hown, hts, hK, hA, hlk, hns⟩ := am
  intro H locs la hz hW hsA hS hc hl
  exact lv_bipush hx hb hd hv (k H locs la hz hW hsA hS hc hl)
theorem dz_sipush (am : dz_Am κ cc own) {n : Int} (hd : decode cc pc = .ok (.sipush n, 3)) (hv : (Int16.ofInt n).toInt32 = dz_i n) (k : dz_V κ cells slots sz sk rf I (pc + 3) ls (.int (dz_i n) :: st)) : dz_V κ cells slots sz sk rf I pc ls st := by
  obtain ⟨p, l, e, R, s, m, args, below, meth, c, Q, D, Dt, A, nL⟩ := κ
  obtain ⟨hx, hb, hml, hown, hts, hK, hA, hlk, hns⟩ := am
  intro H locs la hz hW hsA hS hc hl
  exact lv_sipush hx hb hd hv (k H locs la hz hW hsA hS hc hl)
theorem dz_iload_n (am : dz_Am κ cc own) {k : Fin 4} {i : Nat} {x : Int32} (j : Nat) (hd : decode cc pc = .ok (.iload_n k, 1)) (hi : (k : Nat) = i) (hj : ls[j]? = some (i, .int x)) (kk : dz_V κ cells slots sz sk rf I (pc + 1) ls (.int x :: st)) : dz_V κ cells slots sz sk rf I pc ls st := by
  obtain ⟨p, l, e, R, s, m, args, below, meth, c, Q, D, Dt, A, nL⟩ := κ
  obtain ⟨hx, hb, hml, hown, hts, hK, hA, hlk, hns⟩ := am
  intro H locs la hz hW hsA hS hc hl
  exact lv_iload_n hx hb hd hi (lv_at hl j hj) (kk H locs la hz hW hsA hS hc hl)
theorem dz_iload (am : dz_Am κ cc own) {i : Nat} {x : Int32} (j : Nat) (hd : decode cc pc = .ok (.iload i, 2)) (hj : ls[j]? = some (i, .int x)) (kk : dz_V κ cells slots sz sk rf I (pc + 2) ls (.int x :: st)) : dz_V κ cells slots sz sk rf I pc ls st := by
  obtain ⟨p, l, e, R, s, m, args, below, meth, c, Q, D, Dt, A, nL⟩ := κ
  obtain ⟨hx, hb, hml, hown, hts, hK, hA, hlk, hns⟩ := am
  intro H locs la hz hW hsA hS hc hl
  exact lv_iload hx hb hd (lv_at hl j hj) (kk H locs la hz hW hsA hS hc hl)
theorem dz_aload_n (am : dz_Am κ cc own) {k : Fin 4} {i : Nat} {x : Nat} (j : Nat) (hd : decode cc pc = .ok (.aload_n k, 1)) (hi : (k : Nat) = i) (hj : ls[j]? = some (i, .ref x)) (kk : dz_V κ cells slots sz sk rf I (pc + 1) ls (.ref x :: st)) : dz_V κ cells slots sz sk rf I pc ls st := by
  obtain ⟨p, l, e, R, s, m, args, below, meth, c, Q, D, Dt, A, nL⟩ := κ
  obtain ⟨hx, hb, hml, hown, hts, hK, hA, hlk, hns⟩ := am
  intro H locs la hz hW hsA hS hc hl
  exact lv_aload_n hx hb hd hi (lv_at hl j hj) (kk H locs la hz hW hsA hS hc hl)
theorem dz_aload (am : dz_Am κ cc own) {i : Nat} {x : Nat} (j : Nat) (hd : decode cc pc = .ok (.aload i, 2)) (hj : ls[j]? = some (i, .ref x)) (kk : dz_V κ cells slots sz sk rf I (pc + 2) ls (.ref x :: st)) : dz_V κ cells slots sz sk rf I pc ls st := by
  obtain ⟨p, l, e, R, s, m, args, below, meth, c, Q, D, Dt, A, nL⟩ := κ
  obtain ⟨hx, hb, hml, hown, hts, hK, hA, hlk, hns⟩ := am
  intro H locs la hz hW hsA hS hc hl
  exact lv_aload hx hb hd (lv_at hl j hj) (kk H locs la hz hW hsA hS hc hl)
theorem dz_aload_nN (am : dz_Am κ cc own) {k : Fin 4} {i : Nat} (j : Nat) (hd : decode cc pc = .ok (.aload_n k, 1)) (hi : (k : Nat) = i) (hj : ls[j]? = some (i, .null)) (kk : dz_V κ cells slots sz sk rf I (pc + 1) ls (.null :: st)) : dz_V κ cells slots sz sk rf I pc ls st := by
  obtain ⟨p, l, e, R, s, m, args, below, meth, c, Q, D, Dt, A, nL⟩ := κ
  obtain ⟨hx, hb, hml, hown, hts, hK, hA, hlk, hns⟩ := am
  intro H locs la hz hW hsA hS hc hl
  exact lv_aload_nN hx hb hd hi (lv_at hl j hj) (kk H locs la hz hW hsA hS hc hl)
theorem dz_aloadN (am : dz_Am κ cc own) {i : Nat} (j : Nat) (hd : decode cc pc = .ok (.aload i, 2)) (hj : ls[j]? = some (i, .null)) (kk : dz_V κ cells slots sz sk rf I (pc + 2) ls (.null :: st)) : dz_V κ cells slots sz sk rf I pc ls st := by
  obtain ⟨p, l, e, R, s, m, args, below, meth, c, Q, D, Dt, A, nL⟩ := κ
  obtain ⟨hx, hb, hml, hown, hts, hK, hA, hlk, hns⟩ := am
  intro H locs la hz hW hsA hS hc hl
  exact lv_aloadN hx hb hd (lv_at hl j hj) (kk H locs la hz hW hsA hS hc hl)
theorem dz_null (am : dz_Am κ cc own) (hd : decode cc pc = .ok (.aconst_null, 1)) (kk : dz_V κ cells slots sz sk rf I (pc + 1) ls (.null :: st)) : dz_V κ cells slots sz sk rf I pc ls st := by
  obtain ⟨p, l, e, R, s, m, args, below, meth, c, Q, D, Dt, A, nL⟩ := κ
  obtain ⟨hx, hb, hml, hown, hts, hK, hA, hlk, hns⟩ := am
  intro H locs la hz hW hsA hS hc hl
  exact lv_null hx hb hd (kk H locs la hz hW hsA hS hc hl)
theorem dz_istore_n (am : dz_Am κ cc own) {k : Fin 4} {x : Int32} {i : Nat} {ls' : List (Nat × Value)} (hd : decode cc pc = .ok (.istore_n k, 1)) (hi : (k : Nat) = i) (hN : dz_n κ = nL0) (hn : i < nL0) (hl' : dz_st ls i (Value.int x) = ls') (kk : dz_V κ cells slots sz sk rf I (pc + 1) ls' st) : dz_V κ cells slots sz sk rf I pc ls ((Value.int x) :: st) := by
  obtain ⟨p, l, e, R, s, m, args, below, meth, c, Q, D, Dt, A, nL⟩ := κ
  obtain ⟨hx, hb, hml, hown, hts, hK, hA, hlk, hns⟩ := am
  intro H locs la hz hW hsA hS hc hl
  subst hl'
  refine lv_istore_n hx hb hd hi hl (by change nL = nL0 at hN; omega) rfl (fun la' h' => ?_)
  obtain ⟨h1, h2⟩ := dz_st_has (v := (Value.int x)) rfl hc h'
  exact kk H locs la' hz hW hsA hS h2 h1
theorem dz_istore (am : dz_Am κ cc own) {x : Int32} {i : Nat} {ls' : List (Nat × Value)} (hd : decode cc pc = .ok (.istore i, 2)) (hN : dz_n κ = nL0) (hn : i < nL0) (hl' : dz_st ls i (Value.int x) = ls') (kk : dz_V κ cells slots sz sk rf I (pc + 2) ls' st) : dz_V κ cells slots sz sk rf I pc ls ((Value.int x) :: st) := by
  obtain ⟨p, l, e, R, s, m, args, below, meth, c, Q, D, Dt, A, nL⟩ := κ
  obtain ⟨hx, hb, hml, hown, hts, hK, hA, hlk, hns⟩ := am
  intro H locs la hz hW hsA hS hc hl
  subst hl'
  refine lv_istore hx hb hd hl (by change nL = nL0 at hN; omega) rfl (fun la' h' => ?_)
  obtain ⟨h1, h2⟩ := dz_st_has (v := (Value.int x)) rfl hc h'
  exact kk H locs la' hz hW hsA hS h2 h1
theorem dz_astore_n (am : dz_Am κ cc own) {k : Fin 4} {x : Nat} {i : Nat} {ls' : List (Nat × Value)} (hd : decode cc pc = .ok (.astore_n k, 1)) (hi : (k : Nat) = i) (hN : dz_n κ = nL0) (hn : i < nL0) (hl' : dz_st ls i (Value.ref x) = ls') (kk : dz_V κ cells slots sz sk rf I (pc + 1) ls' st) : dz_V κ cells slots sz sk rf I pc ls ((Value.ref x) :: st) := by
  obtain ⟨p, l, e, R, s, m, args, below, meth, c, Q, D, Dt, A, nL⟩ := κ
  obtain ⟨hx, hb, hml, hown, hts, hK, hA, hlk, hns⟩ := am
  intro H locs la hz hW hsA hS hc hl
  subst hl'
  refine lv_astore_n hx hb hd hi hl (by change nL = nL0 at hN; omega) rfl (fun la' h' => ?_)
  obtain ⟨h1, h2⟩ := dz_st_has (v := (Value.ref x)) rfl hc h'
  exact kk H locs la' hz hW hsA hS h2 h1
theorem dz_astore (am : dz_Am κ cc own) {x : Nat} {i : Nat} {ls' : List (Nat × Value)} (hd : decode cc pc = .ok (.astore i, 2)) (hN : dz_n κ = nL0) (hn : i < nL0) (hl' : dz_st ls i (Value.ref x) = ls') (kk : dz_V κ cells slots sz sk rf I (pc + 2) ls' st) : dz_V κ cells slots sz sk rf I pc ls ((Value.ref x) :: st) := by
  obtain ⟨p, l, e, R, s, m, args, below, meth, c, Q, D, Dt, A, nL⟩ := κ
  obtain ⟨hx, hb, hml, hown, hts, hK, hA, hlk, hns⟩ := am
  intro H locs la hz hW hsA hS hc hl
  subst hl'
  refine lv_astore hx hb hd hl (by change nL = nL0 at hN; omega) rfl (fun la' h' => ?_)
  obtain ⟨h1, h2⟩ := dz_st_has (v := (Value.ref x)) rfl hc h'
  exact kk H locs la' hz hW hsA hS h2 h1
theorem dz_astore_nN (am : dz_Am κ cc own) {k : Fin 4}  {i : Nat} {ls' : List (Nat × Value)} (hd : decode cc pc = .ok (.astore_n k, 1)) (hi : (k : Nat) = i) (hN : dz_n κ = nL0) (hn : i < nL0) (hl' : dz_st ls i Value.null = ls') (kk : dz_V κ cells slots sz sk rf I (pc + 1) ls' st) : dz_V κ cells slots sz sk rf I pc ls (Value.null :: st) := by
  obtain ⟨p, l, e, R, s, m, args, below, meth, c, Q, D, Dt, A, nL⟩ := κ
  obtain ⟨hx, hb, hml, hown, hts, hK, hA, hlk, hns⟩ := am
  intro H locs la hz hW hsA hS hc hl
  subst hl'
  refine lv_astore_nN hx hb hd hi hl (by change nL = nL0 at hN; omega) rfl (fun la' h' => ?_)
  obtain ⟨h1, h2⟩ := dz_st_has (v := Value.null) rfl hc h'
  exact kk H locs la' hz hW hsA hS h2 h1
theorem dz_astoreN (am : dz_Am κ cc own)  {i : Nat} {ls' : List (Nat × Value)} (hd : decode cc pc = .ok (.astore i, 2)) (hN : dz_n κ = nL0) (hn : i < nL0) (hl' : dz_st ls i Value.null = ls') (kk : dz_V κ cells slots sz sk rf I (pc + 2) ls' st) : dz_V κ cells slots sz sk rf I pc ls (Value.null :: st) := by
  obtain ⟨p, l, e, R, s, m, args, below, meth, c, Q, D, Dt, A, nL⟩ := κ
  obtain ⟨hx, hb, hml, hown, hts, hK, hA, hlk, hns⟩ := am
  intro H locs la hz hW hsA hS hc hl
  subst hl'
  refine lv_astoreN hx hb hd hl (by change nL = nL0 at hN; omega) rfl (fun la' h' => ?_)
  obtain ⟨h1, h2⟩ := dz_st_has (v := Value.null) rfl hc h'
  exact kk H locs la' hz hW hsA hS h2 h1
theorem dz_iinc (am : dz_Am κ cc own) {i : Nat} {n x z : Int} {ls' : List (Nat × Value)} (j : Nat) (hd : decode cc pc = .ok (.iinc i n, 3)) (hj : ls[j]? = some (i, .int (dz_i x))) (hN : dz_n κ = nL0) (hn : i < nL0) (hz' : x + n = z) (hl' : dz_st ls i (.int (dz_i z)) = ls') (kk : dz_V κ cells slots sz sk rf I (pc + 3) ls' st) : dz_V κ cells slots sz sk rf I pc ls st := by
  obtain ⟨p, l, e, R, s, m, args, below, meth, c, Q, D, Dt, A, nL⟩ := κ
  obtain ⟨hx, hb, hml, hown, hts, hK, hA, hlk, hns⟩ := am
  intro H locs la hz hW hsA hS hc hl
  subst hl'
  subst hz'
  refine lv_iinc (v := dz_i (x + n)) hx hb hd hl hj (dz_add x n) (by change nL = nL0 at hN; omega) rfl (fun la' h' => ?_)
  obtain ⟨h1, h2⟩ := dz_st_has (v := .int (dz_i (x + n))) rfl hc h'
  exact kk H locs la' hz hW hsA hS h2 h1
theorem dz_iadd (am : dz_Am κ cc own) {x y z : Int} (hd : decode cc pc = .ok (.iadd, 1)) (hz' : x + y = z) (k : dz_V κ cells slots sz sk rf I (pc + 1) ls (.int (dz_i z) :: st)) : dz_V κ cells slots sz sk rf I pc ls (.int (dz_i y) :: .int (dz_i x) :: st) := by
  obtain ⟨p, l, e, R, s, m, args, below, meth, c, Q, D, Dt, A, nL⟩ := κ
  obtain ⟨hx, hb, hml, hown, hts, hK, hA, hlk, hns⟩ := am
  intro H locs la hz hW hsA hS hc hl
  subst hz'
  refine lv_iadd hx hb hd ?_
  rw [dz_add]
  exact k H locs la hz hW hsA hS hc hl
theorem dz_isub (am : dz_Am κ cc own) {x y z : Int} (hd : decode cc pc = .ok (.isub, 1)) (hz' : x - y = z) (k : dz_V κ cells slots sz sk rf I (pc + 1) ls (.int (dz_i z) :: st)) : dz_V κ cells slots sz sk rf I pc ls (.int (dz_i y) :: .int (dz_i x) :: st) := by
  obtain ⟨p, l, e, R, s, m, args, below, meth, c, Q, D, Dt, A, nL⟩ := κ
  obtain ⟨hx, hb, hml, hown, hts, hK, hA, hlk, hns⟩ := am
  intro H locs la hz hW hsA hS hc hl
  subst hz'
  refine lv_isub hx hb hd ?_
  rw [dz_sub]
  exact k H locs la hz hW hsA hS hc hl
theorem dz_imul (am : dz_Am κ cc own) {x y z : Int} (hd : decode cc pc = .ok (.imul, 1)) (hz' : x * y = z) (k : dz_V κ cells slots sz sk rf I (pc + 1) ls (.int (dz_i z) :: st)) : dz_V κ cells slots sz sk rf I pc ls (.int (dz_i y) :: .int (dz_i x) :: st) := by
  obtain ⟨p, l, e, R, s, m, args, below, meth, c, Q, D, Dt, A, nL⟩ := κ
  obtain ⟨hx, hb, hml, hown, hts, hK, hA, hlk, hns⟩ := am
  intro H locs la hz hW hsA hS hc hl
  subst hz'
  refine lv_imul hx hb hd ?_
  rw [dz_mul]
  exact k H locs la hz hW hsA hS hc hl
theorem dz_idiv (am : dz_Am κ cc own) {x y : Int} (hd : decode cc pc = .ok (.idiv, 1)) (h1 : 0 ≤ x ∧ x < 2147483648) (h2 : 0 < y ∧ y < 2147483648) (k : dz_V κ cells slots sz sk rf I (pc + 1) ls (.int (dz_i (x / y)) :: st)) : dz_V κ cells slots sz sk rf I pc ls (.int (dz_i y) :: .int (dz_i x) :: st) := by
  obtain ⟨p, l, e, R, s, m, args, below, meth, c, Q, D, Dt, A, nL⟩ := κ
  obtain ⟨hx, hb, hml, hown, hts, hK, hA, hlk, hns⟩ := am
  intro H locs la hz hW hsA hS hc hl
  refine lv_idiv hx hb hd (fun z => by rw [dz_0, dz_eq (by omega) (by omega)] at z; omega) ?_
  rw [dz_div h1 h2]
  exact k H locs la hz hW hsA hS hc hl
theorem dz_irem (am : dz_Am κ cc own) {x y : Int} (hd : decode cc pc = .ok (.irem, 1)) (h1 : 0 ≤ x ∧ x < 2147483648) (h2 : 0 < y ∧ y < 2147483648) (k : dz_V κ cells slots sz sk rf I (pc + 1) ls (.int (dz_i (x % y)) :: st)) : dz_V κ cells slots sz sk rf I pc ls (.int (dz_i y) :: .int (dz_i x) :: st) := by
  obtain ⟨p, l, e, R, s, m, args, below, meth, c, Q, D, Dt, A, nL⟩ := κ
  obtain ⟨hx, hb, hml, hown, hts, hK, hA, hlk, hns⟩ := am
  intro H locs la hz hW hsA hS hc hl
  refine lv_irem hx hb hd (fun z => by rw [dz_0, dz_eq (by omega) (by omega)] at z; omega) ?_
  rw [dz_rem h1 h2]
  exact k H locs la hz hW hsA hS hc hl
theorem dz_ishl (am : dz_Am κ cc own) {x y z : Int} (hd : decode cc pc = .ok (.ishl, 1)) (hzz : dz_i x <<< (dz_i y &&& 31) = dz_i z) (k : dz_V κ cells slots sz sk rf I (pc + 1) ls (.int (dz_i z) :: st)) : dz_V κ cells slots sz sk rf I pc ls (.int (dz_i y) :: .int (dz_i x) :: st) := by
  obtain ⟨p, l, e, R, s, m, args, below, meth, c, Q, D, Dt, A, nL⟩ := κ
  obtain ⟨hx, hb, hml, hown, hts, hK, hA, hlk, hns⟩ := am
  intro H locs la hz hW hsA hS hc hl
  refine lv_ishl hx hb hd ?_
  rw [hzz]
  exact k H locs la hz hW hsA hS hc hl
theorem dz_iand (am : dz_Am κ cc own) {x y z : Int} (hd : decode cc pc = .ok (.iand, 1)) (hzz : dz_i x &&& dz_i y = dz_i z) (k : dz_V κ cells slots sz sk rf I (pc + 1) ls (.int (dz_i z) :: st)) : dz_V κ cells slots sz sk rf I pc ls (.int (dz_i y) :: .int (dz_i x) :: st) := by
  obtain ⟨p, l, e, R, s, m, args, below, meth, c, Q, D, Dt, A, nL⟩ := κ
  obtain ⟨hx, hb, hml, hown, hts, hK, hA, hlk, hns⟩ := am
  intro H locs la hz hW hsA hS hc hl
  refine lv_iand hx hb hd ?_
  rw [hzz]
  exact k H locs la hz hW hsA hS hc hl
theorem dz_i2c (am : dz_Am κ cc own) {x : Int} (hd : decode cc pc = .ok (.i2c, 1)) (h1 : 0 ≤ x ∧ x < 65536) (k : dz_V κ cells slots sz sk rf I (pc + 1) ls (.int (dz_i x) :: st)) : dz_V κ cells slots sz sk rf I pc ls (.int (dz_i x) :: st) := by
  obtain ⟨p, l, e, R, s, m, args, below, meth, c, Q, D, Dt, A, nL⟩ := κ
  obtain ⟨hx, hb, hml, hown, hts, hK, hA, hlk, hns⟩ := am
  intro H locs la hz hW hsA hS hc hl
  exact lv_i2c hx hb hd (dz_chr h1) (k H locs la hz hW hsA hS hc hl)
theorem dz_i2l (am : dz_Am κ cc own) {x : Int32} (hd : decode cc pc = .ok (.i2l, 1)) (k : dz_V κ cells slots sz sk rf I (pc + 1) ls (.long x.toInt64 :: st)) : dz_V κ cells slots sz sk rf I pc ls (.int x :: st) := by
  obtain ⟨p, l, e, R, s, m, args, below, meth, c, Q, D, Dt, A, nL⟩ := κ
  obtain ⟨hx, hb, hml, hown, hts, hK, hA, hlk, hns⟩ := am
  intro H locs la hz hW hsA hS hc hl
  exact lv_i2l hx hb hd rfl (k H locs la hz hW hsA hS hc hl)
theorem dz_dup (am : dz_Am κ cc own) {v : Value} (hd : decode cc pc = .ok (.dup, 1)) (hv : v.category = 1) (k : dz_V κ cells slots sz sk rf I (pc + 1) ls (v :: v :: st)) : dz_V κ cells slots sz sk rf I pc ls (v :: st) := by
  obtain ⟨p, l, e, R, s, m, args, below, meth, c, Q, D, Dt, A, nL⟩ := κ
  obtain ⟨hx, hb, hml, hown, hts, hK, hA, hlk, hns⟩ := am
  intro H locs la hz hW hsA hS hc hl
  exact lv_dup hx hb hd hv (k H locs la hz hW hsA hS hc hl)
theorem dz_pop (am : dz_Am κ cc own) {v : Value} (hd : decode cc pc = .ok (.pop, 1)) (hv : v.category = 1) (k : dz_V κ cells slots sz sk rf I (pc + 1) ls st) : dz_V κ cells slots sz sk rf I pc ls (v :: st) := by
  obtain ⟨p, l, e, R, s, m, args, below, meth, c, Q, D, Dt, A, nL⟩ := κ
  obtain ⟨hx, hb, hml, hown, hts, hK, hA, hlk, hns⟩ := am
  intro H locs la hz hW hsA hS hc hl
  exact lv_pop hx hb hd hv (k H locs la hz hW hsA hS hc hl)
theorem dz_dup_x1 (am : dz_Am κ cc own) {v w : Value} (hd : decode cc pc = .ok (.dup_x1, 1)) (hv : v.category = 1) (hw : w.category = 1) (k : dz_V κ cells slots sz sk rf I (pc + 1) ls (v :: w :: v :: st)) : dz_V κ cells slots sz sk rf I pc ls (v :: w :: st) := by
  obtain ⟨p, l, e, R, s, m, args, below, meth, c, Q, D, Dt, A, nL⟩ := κ
  obtain ⟨hx, hb, hml, hown, hts, hK, hA, hlk, hns⟩ := am
  intro H locs la hz hW hsA hS hc hl
  exact lv_dup_x1 hx hb hd hv hw (k H locs la hz hW hsA hS hc hl)
theorem dz_dup_x2 (am : dz_Am κ cc own) {v w u : Value} (hd : decode cc pc = .ok (.dup_x2, 1)) (hv : v.category = 1) (hw : w.category = 1) (hu : u.category = 1) (k : dz_V κ cells slots sz sk rf I (pc + 1) ls (v :: w :: u :: v :: st)) : dz_V κ cells slots sz sk rf I pc ls (v :: w :: u :: st) := by
  obtain ⟨p, l, e, R, s, m, args, below, meth, c, Q, D, Dt, A, nL⟩ := κ
  obtain ⟨hx, hb, hml, hown, hts, hK, hA, hlk, hns⟩ := am
  intro H locs la hz hW hsA hS hc hl
  exact lv_dup_x2 hx hb hd hv hw hu (k H locs la hz hW hsA hS hc hl)
theorem dz_dup2 (am : dz_Am κ cc own) {v w : Value} (hd : decode cc pc = .ok (.dup2, 1)) (hv : v.category = 1) (hw : w.category = 1) (k : dz_V κ cells slots sz sk rf I (pc + 1) ls (v :: w :: v :: w :: st)) : dz_V κ cells slots sz sk rf I pc ls (v :: w :: st) := by
  obtain ⟨p, l, e, R, s, m, args, below, meth, c, Q, D, Dt, A, nL⟩ := κ
  obtain ⟨hx, hb, hml, hown, hts, hK, hA, hlk, hns⟩ := am
  intro H locs la hz hW hsA hS hc hl
  exact lv_dup2_11 hx hb hd hv hw (k H locs la hz hW hsA hS hc hl)
theorem dz_icmp_eq (am : dz_Am κ cc own) {x y : Int} {off : Int} {tgt : Nat} (hd : decode cc pc = .ok (.if_icmp .eq off, 3)) (ht : (pc : Int) + off = (tgt : Int)) (h1 : -2147483648 ≤ x ∧ x < 2147483648) (h2 : -2147483648 ≤ y ∧ y < 2147483648) (kt : x = y → dz_V κ cells slots sz sk rf I tgt ls st) (kf : ¬ x = y → dz_V κ cells slots sz sk rf I (pc + 3) ls st) : dz_V κ cells slots sz sk rf I pc ls (.int (dz_i y) :: .int (dz_i x) :: st) := by
  obtain ⟨p, l, e, R, s, m, args, below, meth, c, Q, D, Dt, A, nL⟩ := κ
  obtain ⟨hx, hb, hml, hown, hts, hK, hA, hlk, hns⟩ := am
  intro H locs la hz hW hsA hS hc hl
  have e1 := dz_lt h1 h2
  have e2 := dz_le h1 h2
  have e3 := dz_eq h1 h2
  have e4 := dz_lt h2 h1
  have e5 := dz_le h2 h1
  exact lv_icmp_eq hx hb hd ht (fun z => kt (by simp only [ge_iff_le, gt_iff_lt, ne_eq, e1, e2, e3, e4, e5] at z; omega) H locs la hz hW hsA hS hc hl) (fun z => kf (by simp only [ge_iff_le, gt_iff_lt, ne_eq, e1, e2, e3, e4, e5] at z; omega) H locs la hz hW hsA hS hc hl)
theorem dz_if_eq (am : dz_Am κ cc own) {x : Int} {off : Int} {tgt : Nat} (hd : decode cc pc = .ok (.ifCond .eq off, 3)) (ht : (pc : Int) + off = (tgt : Int)) (h1 : -2147483648 ≤ x ∧ x < 2147483648) (kt : x = 0 → dz_V κ cells slots sz sk rf I tgt ls st) (kf : ¬ x = 0 → dz_V κ cells slots sz sk rf I (pc + 3) ls st) : dz_V κ cells slots sz sk rf I pc ls (.int (dz_i x) :: st) := by
  obtain ⟨p, l, e, R, s, m, args, below, meth, c, Q, D, Dt, A, nL⟩ := κ
  obtain ⟨hx, hb, hml, hown, hts, hK, hA, hlk, hns⟩ := am
  intro H locs la hz hW hsA hS hc hl
  have h2 : -2147483648 ≤ (0 : Int) ∧ (0 : Int) < 2147483648 := by omega
  have e1 := dz_lt h1 h2
  have e2 := dz_le h1 h2
  have e3 := dz_eq h1 h2
  have e4 := dz_lt h2 h1
  have e5 := dz_le h2 h1
  rw [← dz_0] at e1 e2 e3 e4 e5
  exact lv_if_eq hx hb hd ht (fun z => kt (by simp only [ge_iff_le, gt_iff_lt, ne_eq, e1, e2, e3, e4, e5] at z; omega) H locs la hz hW hsA hS hc hl) (fun z => kf (by simp only [ge_iff_le, gt_iff_lt, ne_eq, e1, e2, e3, e4, e5] at z; omega) H locs la hz hW hsA hS hc hl)
theorem dz_icmp_ne (am : dz_Am κ cc own) {x y : Int} {off : Int} {tgt : Nat} (hd : decode cc pc = .ok (.if_icmp .ne off, 3)) (ht : (pc : Int) + off = (tgt : Int)) (h1 : -2147483648 ≤ x ∧ x < 2147483648) (h2 : -2147483648 ≤ y ∧ y < 2147483648) (kt : ¬ x = y → dz_V κ cells slots sz sk rf I tgt ls st) (kf : x = y → dz_V κ cells slots sz sk rf I (pc + 3) ls st) : dz_V κ cells slots sz sk rf I pc ls (.int (dz_i y) :: .int (dz_i x) :: st) := by
  obtain ⟨p, l, e, R, s, m, args, below, meth, c, Q, D, Dt, A, nL⟩ := κ
  obtain ⟨hx, hb, hml, hown, hts, hK, hA, hlk, hns⟩ := am
  intro H locs la hz hW hsA hS hc hl
  have e1 := dz_lt h1 h2
  have e2 := dz_le h1 h2
  have e3 := dz_eq h1 h2
  have e4 := dz_lt h2 h1
  have e5 := dz_le h2 h1
  exact lv_icmp_ne hx hb hd ht (fun z => kt (by simp only [ge_iff_le, gt_iff_lt, ne_eq, e1, e2, e3, e4, e5] at z; omega) H locs la hz hW hsA hS hc hl) (fun z => kf (by simp only [ge_iff_le, gt_iff_lt, ne_eq, e1, e2, e3, e4, e5] at z; omega) H locs la hz hW hsA hS hc hl)
theorem dz_if_ne (am : dz_Am κ cc own) {x : Int} {off : Int} {tgt : Nat} (hd : decode cc pc = .ok (.ifCond .ne off, 3)) (ht : (pc : Int) + off = (tgt : Int)) (h1 : -2147483648 ≤ x ∧ x < 2147483648) (kt : ¬ x = 0 → dz_V κ cells slots sz sk rf I tgt ls st) (kf : x = 0 → dz_V κ cells slots sz sk rf I (pc + 3) ls st) : dz_V κ cells slots sz sk rf I pc ls (.int (dz_i x) :: st) := by
  obtain ⟨p, l, e, R, s, m, args, below, meth, c, Q, D, Dt, A, nL⟩ := κ
  obtain ⟨hx, hb, hml, hown, hts, hK, hA, hlk, hns⟩ := am
  intro H locs la hz hW hsA hS hc hl
  have h2 : -2147483648 ≤ (0 : Int) ∧ (0 : Int) < 2147483648 := by omega
  have e1 := dz_lt h1 h2
  have e2 := dz_le h1 h2
  have e3 := dz_eq h1 h2
  have e4 := dz_lt h2 h1
  have e5 := dz_le h2 h1
  rw [← dz_0] at e1 e2 e3 e4 e5
  exact lv_if_ne hx hb hd ht (fun z => kt (by simp only [ge_iff_le, gt_iff_lt, ne_eq, e1, e2, e3, e4, e5] at z; omega) H locs la hz hW hsA hS hc hl) (fun z => kf (by simp only [ge_iff_le, gt_iff_lt, ne_eq, e1, e2, e3, e4, e5] at z; omega) H locs la hz hW hsA hS hc hl)
theorem dz_icmp_lt (am : dz_Am κ cc own) {x y : Int} {off : Int} {tgt : Nat} (hd : decode cc pc = .ok (.if_icmp .lt off, 3)) (ht : (pc : Int) + off = (tgt : Int)) (h1 : -2147483648 ≤ x ∧ x < 2147483648) (h2 : -2147483648 ≤ y ∧ y < 2147483648) (kt : x < y → dz_V κ cells slots sz sk rf I tgt ls st) (kf : y ≤ x → dz_V κ cells slots sz sk rf I (pc + 3) ls st) : dz_V κ cells slots sz sk rf I pc ls (.int (dz_i y) :: .int (dz_i x) :: st) := by
  obtain ⟨p, l, e, R, s, m, args, below, meth, c, Q, D, Dt, A, nL⟩ := κ
  obtain ⟨hx, hb, hml, hown, hts, hK, hA, hlk, hns⟩ := am
  intro H locs la hz hW hsA hS hc hl
  have e1 := dz_lt h1 h2
  have e2 := dz_le h1 h2
  have e3 := dz_eq h1 h2
  have e4 := dz_lt h2 h1
  have e5 := dz_le h2 h1
  exact lv_icmp_lt hx hb hd ht (fun z => kt (by simp only [ge_iff_le, gt_iff_lt, ne_eq, e1, e2, e3, e4, e5] at z; omega) H locs la hz hW hsA hS hc hl) (fun z => kf (by simp only [ge_iff_le, gt_iff_lt, ne_eq, e1, e2, e3, e4, e5] at z; omega) H locs la hz hW hsA hS hc hl)
theorem dz_if_lt (am : dz_Am κ cc own) {x : Int} {off : Int} {tgt : Nat} (hd : decode cc pc = .ok (.ifCond .lt off, 3)) (ht : (pc : Int) + off = (tgt : Int)) (h1 : -2147483648 ≤ x ∧ x < 2147483648) (kt : x < 0 → dz_V κ cells slots sz sk rf I tgt ls st) (kf : 0 ≤ x → dz_V κ cells slots sz sk rf I (pc + 3) ls st) : dz_V κ cells slots sz sk rf I pc ls (.int (dz_i x) :: st) := by
  obtain ⟨p, l, e, R, s, m, args, below, meth, c, Q, D, Dt, A, nL⟩ := κ
  obtain ⟨hx, hb, hml, hown, hts, hK, hA, hlk, hns⟩ := am
  intro H locs la hz hW hsA hS hc hl
  have h2 : -2147483648 ≤ (0 : Int) ∧ (0 : Int) < 2147483648 := by omega
  have e1 := dz_lt h1 h2
  have e2 := dz_le h1 h2
  have e3 := dz_eq h1 h2
  have e4 := dz_lt h2 h1
  have e5 := dz_le h2 h1
  rw [← dz_0] at e1 e2 e3 e4 e5
  exact lv_if_lt hx hb hd ht (fun z => kt (by simp only [ge_iff_le, gt_iff_lt, ne_eq, e1, e2, e3, e4, e5] at z; omega) H locs la hz hW hsA hS hc hl) (fun z => kf (by simp only [ge_iff_le, gt_iff_lt, ne_eq, e1, e2, e3, e4, e5] at z; omega) H locs la hz hW hsA hS hc hl)
theorem dz_icmp_ge (am : dz_Am κ cc own) {x y : Int} {off : Int} {tgt : Nat} (hd : decode cc pc = .ok (.if_icmp .ge off, 3)) (ht : (pc : Int) + off = (tgt : Int)) (h1 : -2147483648 ≤ x ∧ x < 2147483648) (h2 : -2147483648 ≤ y ∧ y < 2147483648) (kt : y ≤ x → dz_V κ cells slots sz sk rf I tgt ls st) (kf : x < y → dz_V κ cells slots sz sk rf I (pc + 3) ls st) : dz_V κ cells slots sz sk rf I pc ls (.int (dz_i y) :: .int (dz_i x) :: st) := by
  obtain ⟨p, l, e, R, s, m, args, below, meth, c, Q, D, Dt, A, nL⟩ := κ
  obtain ⟨hx, hb, hml, hown, hts, hK, hA, hlk, hns⟩ := am
  intro H locs la hz hW hsA hS hc hl
  have e1 := dz_lt h1 h2
  have e2 := dz_le h1 h2
  have e3 := dz_eq h1 h2
  have e4 := dz_lt h2 h1
  have e5 := dz_le h2 h1
  exact lv_icmp_ge hx hb hd ht (fun z => kt (by simp only [ge_iff_le, gt_iff_lt, ne_eq, e1, e2, e3, e4, e5] at z; omega) H locs la hz hW hsA hS hc hl) (fun z => kf (by simp only [ge_iff_le, gt_iff_lt, ne_eq, e1, e2, e3, e4, e5] at z; omega) H locs la hz hW hsA hS hc hl)
theorem dz_if_ge (am : dz_Am κ cc own) {x : Int} {off : Int} {tgt : Nat} (hd : decode cc pc = .ok (.ifCond .ge off, 3)) (ht : (pc : Int) + off = (tgt : Int)) (h1 : -2147483648 ≤ x ∧ x < 2147483648) (kt : 0 ≤ x → dz_V κ cells slots sz sk rf I tgt ls st) (kf : x < 0 → dz_V κ cells slots sz sk rf I (pc + 3) ls st) : dz_V κ cells slots sz sk rf I pc ls (.int (dz_i x) :: st) := by
  obtain ⟨p, l, e, R, s, m, args, below, meth, c, Q, D, Dt, A, nL⟩ := κ
  obtain ⟨hx, hb, hml, hown, hts, hK, hA, hlk, hns⟩ := am
  intro H locs la hz hW hsA hS hc hl
  have h2 : -2147483648 ≤ (0 : Int) ∧ (0 : Int) < 2147483648 := by omega
  have e1 := dz_lt h1 h2
  have e2 := dz_le h1 h2
  have e3 := dz_eq h1 h2
  have e4 := dz_lt h2 h1
  have e5 := dz_le h2 h1
  rw [← dz_0] at e1 e2 e3 e4 e5
  exact lv_if_ge hx hb hd ht (fun z => kt (by simp only [ge_iff_le, gt_iff_lt, ne_eq, e1, e2, e3, e4, e5] at z; omega) H locs la hz hW hsA hS hc hl) (fun z => kf (by simp only [ge_iff_le, gt_iff_lt, ne_eq, e1, e2, e3, e4, e5] at z; omega) H locs la hz hW hsA hS hc hl)
theorem dz_icmp_gt (am : dz_Am κ cc own) {x y : Int} {off : Int} {tgt : Nat} (hd : decode cc pc = .ok (.if_icmp .gt off, 3)) (ht : (pc : Int) + off = (tgt : Int)) (h1 : -2147483648 ≤ x ∧ x < 2147483648) (h2 : -2147483648 ≤ y ∧ y < 2147483648) (kt : y < x → dz_V κ cells slots sz sk rf I tgt ls st) (kf : x ≤ y → dz_V κ cells slots sz sk rf I (pc + 3) ls st) : dz_V κ cells slots sz sk rf I pc ls (.int (dz_i y) :: .int (dz_i x) :: st) := by
  obtain ⟨p, l, e, R, s, m, args, below, meth, c, Q, D, Dt, A, nL⟩ := κ
  obtain ⟨hx, hb, hml, hown, hts, hK, hA, hlk, hns⟩ := am
  intro H locs la hz hW hsA hS hc hl
  have e1 := dz_lt h1 h2
  have e2 := dz_le h1 h2
  have e3 := dz_eq h1 h2
  have e4 := dz_lt h2 h1
  have e5 := dz_le h2 h1
  exact lv_icmp_gt hx hb hd ht (fun z => kt (by simp only [ge_iff_le, gt_iff_lt, ne_eq, e1, e2, e3, e4, e5] at z; omega) H locs la hz hW hsA hS hc hl) (fun z => kf (by simp only [ge_iff_le, gt_iff_lt, ne_eq, e1, e2, e3, e4, e5] at z; omega) H locs la hz hW hsA hS hc hl)
theorem dz_if_gt (am : dz_Am κ cc own) {x : Int} {off : Int} {tgt : Nat} (hd : decode cc pc = .ok (.ifCond .gt off, 3)) (ht : (pc : Int) + off = (tgt : Int)) (h1 : -2147483648 ≤ x ∧ x < 2147483648) (kt : 0 < x → dz_V κ cells slots sz sk rf I tgt ls st) (kf : x ≤ 0 → dz_V κ cells slots sz sk rf I (pc + 3) ls st) : dz_V κ cells slots sz sk rf I pc ls (.int (dz_i x) :: st) := by
  obtain ⟨p, l, e, R, s, m, args, below, meth, c, Q, D, Dt, A, nL⟩ := κ
  obtain ⟨hx, hb, hml, hown, hts, hK, hA, hlk, hns⟩ := am
  intro H locs la hz hW hsA hS hc hl
  have h2 : -2147483648 ≤ (0 : Int) ∧ (0 : Int) < 2147483648 := by omega
  have e1 := dz_lt h1 h2
  have e2 := dz_le h1 h2
  have e3 := dz_eq h1 h2
  have e4 := dz_lt h2 h1
  have e5 := dz_le h2 h1
  rw [← dz_0] at e1 e2 e3 e4 e5
  exact lv_if_gt hx hb hd ht (fun z => kt (by simp only [ge_iff_le, gt_iff_lt, ne_eq, e1, e2, e3, e4, e5] at z; omega) H locs la hz hW hsA hS hc hl) (fun z => kf (by simp only [ge_iff_le, gt_iff_lt, ne_eq, e1, e2, e3, e4, e5] at z; omega) H locs la hz hW hsA hS hc hl)
theorem dz_icmp_le (am : dz_Am κ cc own) {x y : Int} {off : Int} {tgt : Nat} (hd : decode cc pc = .ok (.if_icmp .le off, 3)) (ht : (pc : Int) + off = (tgt : Int)) (h1 : -2147483648 ≤ x ∧ x < 2147483648) (h2 : -2147483648 ≤ y ∧ y < 2147483648) (kt : x ≤ y → dz_V κ cells slots sz sk rf I tgt ls st) (kf : y < x → dz_V κ cells slots sz sk rf I (pc + 3) ls st) : dz_V κ cells slots sz sk rf I pc ls (.int (dz_i y) :: .int (dz_i x) :: st) := by
  obtain ⟨p, l, e, R, s, m, args, below, meth, c, Q, D, Dt, A, nL⟩ := κ
  obtain ⟨hx, hb, hml, hown, hts, hK, hA, hlk, hns⟩ := am
  intro H locs la hz hW hsA hS hc hl
  have e1 := dz_lt h1 h2
  have e2 := dz_le h1 h2
  have e3 := dz_eq h1 h2
  have e4 := dz_lt h2 h1
  have e5 := dz_le h2 h1
  exact lv_icmp_le hx hb hd ht (fun z => kt (by simp only [ge_iff_le, gt_iff_lt, ne_eq, e1, e2, e3, e4, e5] at z; omega) H locs la hz hW hsA hS hc hl) (fun z => kf (by simp only [ge_iff_le, gt_iff_lt, ne_eq, e1, e2, e3, e4, e5] at z; omega) H locs la hz hW hsA hS hc hl)
theorem dz_if_le (am : dz_Am κ cc own) {x : Int} {off : Int} {tgt : Nat} (hd : decode cc pc = .ok (.ifCond .le off, 3)) (ht : (pc : Int) + off = (tgt : Int)) (h1 : -2147483648 ≤ x ∧ x < 2147483648) (kt : x ≤ 0 → dz_V κ cells slots sz sk rf I tgt ls st) (kf : 0 < x → dz_V κ cells slots sz sk rf I (pc + 3) ls st) : dz_V κ cells slots sz sk rf I pc ls (.int (dz_i x) :: st) := by
  obtain ⟨p, l, e, R, s, m, args, below, meth, c, Q, D, Dt, A, nL⟩ := κ
  obtain ⟨hx, hb, hml, hown, hts, hK, hA, hlk, hns⟩ := am
  intro H locs la hz hW hsA hS hc hl
  have h2 : -2147483648 ≤ (0 : Int) ∧ (0 : Int) < 2147483648 := by omega
  have e1 := dz_lt h1 h2
  have e2 := dz_le h1 h2
  have e3 := dz_eq h1 h2
  have e4 := dz_lt h2 h1
  have e5 := dz_le h2 h1
  rw [← dz_0] at e1 e2 e3 e4 e5
  exact lv_if_le hx hb hd ht (fun z => kt (by simp only [ge_iff_le, gt_iff_lt, ne_eq, e1, e2, e3, e4, e5] at z; omega) H locs la hz hW hsA hS hc hl) (fun z => kf (by simp only [ge_iff_le, gt_iff_lt, ne_eq, e1, e2, e3, e4, e5] at z; omega) H locs la hz hW hsA hS hc hl)
theorem dz_goto (am : dz_Am κ cc own) {off : Int} {tgt : Nat} (hd : decode cc pc = .ok (.goto off, 3)) (ht : (pc : Int) + off = (tgt : Int)) (k : dz_V κ cells slots sz sk rf I tgt ls st) : dz_V κ cells slots sz sk rf I pc ls st := by
  obtain ⟨p, l, e, R, s, m, args, below, meth, c, Q, D, Dt, A, nL⟩ := κ
  obtain ⟨hx, hb, hml, hown, hts, hK, hA, hlk, hns⟩ := am
  intro H locs la hz hW hsA hS hc hl
  exact lv_goto hx hb hd ht (k H locs la hz hW hsA hS hc hl)
theorem dz_ifnull (am : dz_Am κ cc own) {x : Nat} {off : Int} (hd : decode cc pc = .ok (.ifnull off, 3)) (k : dz_V κ cells slots sz sk rf I (pc + 3) ls st) : dz_V κ cells slots sz sk rf I pc ls (.ref x :: st) := by
  obtain ⟨p, l, e, R, s, m, args, below, meth, c, Q, D, Dt, A, nL⟩ := κ
  obtain ⟨hx, hb, hml, hown, hts, hK, hA, hlk, hns⟩ := am
  intro H locs la hz hW hsA hS hc hl
  exact lv_ifnull hx hb hd (k H locs la hz hW hsA hS hc hl)
theorem dz_ifnullN (am : dz_Am κ cc own) {off : Int} {tgt : Nat} (hd : decode cc pc = .ok (.ifnull off, 3)) (ht : (pc : Int) + off = (tgt : Int)) (k : dz_V κ cells slots sz sk rf I tgt ls st) : dz_V κ cells slots sz sk rf I pc ls (.null :: st) := by
  obtain ⟨p, l, e, R, s, m, args, below, meth, c, Q, D, Dt, A, nL⟩ := κ
  obtain ⟨hx, hb, hml, hown, hts, hK, hA, hlk, hns⟩ := am
  intro H locs la hz hW hsA hS hc hl
  exact lv_ifnullN hx hb hd ht (k H locs la hz hW hsA hS hc hl)
theorem dz_ifnonnull (am : dz_Am κ cc own) {x : Nat} {off : Int} {tgt : Nat} (hd : decode cc pc = .ok (.ifnonnull off, 3)) (ht : (pc : Int) + off = (tgt : Int)) (k : dz_V κ cells slots sz sk rf I tgt ls st) : dz_V κ cells slots sz sk rf I pc ls (.ref x :: st) := by
  obtain ⟨p, l, e, R, s, m, args, below, meth, c, Q, D, Dt, A, nL⟩ := κ
  obtain ⟨hx, hb, hml, hown, hts, hK, hA, hlk, hns⟩ := am
  intro H locs la hz hW hsA hS hc hl
  exact lv_ifnonnull hx hb hd ht (k H locs la hz hW hsA hS hc hl)
theorem dz_ifnonnullN (am : dz_Am κ cc own) {off : Int} (hd : decode cc pc = .ok (.ifnonnull off, 3)) (k : dz_V κ cells slots sz sk rf I (pc + 3) ls st) : dz_V κ cells slots sz sk rf I pc ls (.null :: st) := by
  obtain ⟨p, l, e, R, s, m, args, below, meth, c, Q, D, Dt, A, nL⟩ := κ
  obtain ⟨hx, hb, hml, hown, hts, hK, hA, hlk, hns⟩ := am
  intro H locs la hz hW hsA hS hc hl
  exact lv_ifnonnullN hx hb hd (k H locs la hz hW hsA hS hc hl)
theorem dz_lookup (am : dz_Am κ cc own) {dflt : Int} {ps : Array (Int × Int)} {len : Nat} {x off : Int} {tgt : Nat} (hd : decode cc pc = .ok (.lookupswitch dflt ps, len)) (hp : (ps.toList.zip (ps.toList.drop 1)).all (fun (a, next) => a.1 < next.1) = true) (h1 : -2147483648 ≤ x ∧ x < 2147483648) (ho : Op.lookupswitch.offset ps.toList dflt x = off) (ht : (pc : Int) + off = (tgt : Int)) (k : dz_V κ cells slots sz sk rf I tgt ls st) : dz_V κ cells slots sz sk rf I pc ls (.int (dz_i x) :: st) := by
  obtain ⟨p, l, e, R, s, m, args, below, meth, c, Q, D, Dt, A, nL⟩ := κ
  obtain ⟨hx, hb, hml, hown, hts, hK, hA, hlk, hns⟩ := am
  intro H locs la hz hW hsA hS hc hl
  exact lv_lookup hx hb hd hp (by rw [dz_toInt h1]; exact ho) ht (k H locs la hz hW hsA hS hc hl)
theorem dz_tableOut (am : dz_Am κ cc own) {dflt lo hi : Int} {offs : Array Int} {len : Nat} {x : Int} {tgt : Nat} (hd : decode cc pc = .ok (.tableswitch dflt lo hi offs, len)) (h1 : -2147483648 ≤ x ∧ x < 2147483648) (h : x < lo ∨ hi < x) (ht : (pc : Int) + dflt = (tgt : Int)) (k : dz_V κ cells slots sz sk rf I tgt ls st) : dz_V κ cells slots sz sk rf I pc ls (.int (dz_i x) :: st) := by
  obtain ⟨p, l, e, R, s, m, args, below, meth, c, Q, D, Dt, A, nL⟩ := κ
  obtain ⟨hx, hb, hml, hown, hts, hK, hA, hlk, hns⟩ := am
  intro H locs la hz hW hsA hS hc hl
  exact lv_tableOut hx hb hd (by rw [dz_toInt h1]; exact h) ht (k H locs la hz hW hsA hS hc hl)
theorem dz_tableIn (am : dz_Am κ cc own) {dflt lo hi : Int} {offs : Array Int} {len : Nat} {x off : Int} {tgt : Nat} (hd : decode cc pc = .ok (.tableswitch dflt lo hi offs, len)) (h1 : -2147483648 ≤ x ∧ x < 2147483648) (h : lo ≤ x ∧ x ≤ hi) (ho : offs[(x - lo).toNat]? = some off) (ht : (pc : Int) + off = (tgt : Int)) (k : dz_V κ cells slots sz sk rf I tgt ls st) : dz_V κ cells slots sz sk rf I pc ls (.int (dz_i x) :: st) := by
  obtain ⟨p, l, e, R, s, m, args, below, meth, c, Q, D, Dt, A, nL⟩ := κ
  obtain ⟨hx, hb, hml, hown, hts, hK, hA, hlk, hns⟩ := am
  intro H locs la hz hW hsA hS hc hl
  exact lv_tableIn hx hb hd (by rw [dz_toInt h1]; omega) (by rw [dz_toInt h1]; omega) (by rw [dz_toInt h1]; exact ho) ht (k H locs la hz hW hsA hS hc hl)
/-- a field's link: class and place of the field, whether it is a reference, by the own class's pool -/
def dz_Fg (own : String) (index ci : Nat) (kz : Int) (b : Bool) : Prop := ∃ (C : String) (T : u_T) (N k : Nat), (k : Int) = kz ∧ vwCl[ci]? = some (C, T, N) ∧ k < N ∧ (dz_fty ci)[k]? = some b ∧ (T k).1 = C ∧ (Cond.fieldLink own index C (T k).2.1 (T k).2.2.1 ∈ dz_GW ∨ ∃ host : String, Cond.fieldLinkNest own index C (T k).2.1 (T k).2.2.1 host ∈ dz_NW)
/-- a field of type ty that may be written; fin: a final one -/
def dz_Fp (ci : Nat) (kz : Int) (ty : FieldType) (fin : Bool) : Prop := ∃ (C : String) (T : u_T) (N k : Nat), (k : Int) = kz ∧ vwCl[ci]? = some (C, T, N) ∧ parseFieldDescriptor (T k).2.2.1 = some ty ∧ (T k).2.2.2 = fin
theorem dz_geti (am : dz_Am κ cc own) {q ci index : Nat} {k0 z : Int} (hq : sk q = some (.inr ci)) (hf : dz_Fg own index ci k0 false) (hd : decode cc pc = .ok (.getfield index, 3)) (hv0 : I q k0 = z) (kk : dz_V κ cells slots sz sk rf I (pc + 3) ls (.int (dz_i z) :: st)) : dz_V κ cells slots sz sk rf I pc ls (.ref q :: st) := by
  obtain ⟨p, l, e, R, s, m, args, below, meth, c, Q, D, Dt, A, nL⟩ := κ
  obtain ⟨hx, hb, hml, hown, hts, hK, hA, hlk, hns⟩ := am
  intro H locs la hz hW hsA hS hc hl
  subst hv0
  obtain ⟨C, T, N, k, rfl, c1, c2, c3, c4, c5⟩ := hf
  obtain ⟨f1, -, -, f4⟩ := dz_cf ci _ c1
  have hv : (dz_fs (dz_fty ci) 0 (rf q) (I q))[k]? = some (.int (dz_i (I q k))) := by
    rw [dz_fs_get _ _ _ _ _ _ c3]; simp
  rcases c5 with c5 | ⟨host, c5⟩
  · exact va_get hx hb hts f1 hown hK.1 (hW.one hq) 0 rfl c1 k c2 (hts _ c5) (fun _ h => by rw [c4] at h; exact h) hv hd (kk H locs la hz hW hsA hS hc hl)
  · exact va_getN hx hb hts f1 hown hK.1 (hW.one hq) 0 rfl c1 k c2 (va_Nw.use rfl (hK.2.1 _ c5)) (fun _ h => by rw [c4] at h; exact h) hv hd (kk H locs la hz hW hsA hS hc hl)
theorem dz_getr (am : dz_Am κ cc own) {q ci index a : Nat} {k0 : Int} (hq : sk q = some (.inr ci)) (hf : dz_Fg own index ci k0 true) (hr : rf q k0 = some a) (hd : decode cc pc = .ok (.getfield index, 3)) (kk : dz_V κ cells slots sz sk rf I (pc + 3) ls (.ref a :: st)) : dz_V κ cells slots sz sk rf I pc ls (.ref q :: st) := by
  obtain ⟨p, l, e, R, s, m, args, below, meth, c, Q, D, Dt, A, nL⟩ := κ
  obtain ⟨hx, hb, hml, hown, hts, hK, hA, hlk, hns⟩ := am
  intro H locs la hz hW hsA hS hc hl
  obtain ⟨C, T, N, k, rfl, c1, c2, c3, c4, c5⟩ := hf
  obtain ⟨f1, -, -, f4⟩ := dz_cf ci _ c1
  have hv : (dz_fs (dz_fty ci) 0 (rf q) (I q))[k]? = some (.ref a) := by
    rw [dz_fs_get _ _ _ _ _ _ c3]; simp; rw [hr]; rfl
  rcases c5 with c5 | ⟨host, c5⟩
  · exact va_get hx hb hts f1 hown hK.1 (hW.one hq) 0 rfl c1 k c2 (hts _ c5) (fun _ h => by rw [c4] at h; exact h) hv hd (kk H locs la hz hW hsA hS hc hl)
  · exact va_getN hx hb hts f1 hown hK.1 (hW.one hq) 0 rfl c1 k c2 (va_Nw.use rfl (hK.2.1 _ c5)) (fun _ h => by rw [c4] at h; exact h) hv hd (kk H locs la hz hW hsA hS hc hl)
theorem dz_putc {D : va_G} {Dt : Nat → ClassId} {sk : dz_Sk} {rf rf' : dz_Rf} {I I' : dz_Hp} {H H1 : Heap} {ci q k : Nat} {C : String} {T : u_T} {N : Nat} {v : Value} {cell : Cell} (h : dz_W D Dt sk rf I H) (hq : sk q = some (.inr ci)) (c1 : vwCl[ci]? = some (C, T, N)) (hk : k < N) (q2 : cell.cls = D.1 ci) (q3 : cell.vm = .none) (q4 : ∀ j, j < N → cell.slots[D.2 ci j]? = some (vp_V (dz_fs (dz_fty ci) 0 (rf q) (I q)) j)) (hap : ∀ a b, a < N → b < N → a ≠ b → D.2 ci a ≠ D.2 ci b) (hl : k < (dz_fs (dz_fty ci) 0 (rf q) (I q)).length)
    (hs : (dz_fs (dz_fty ci) 0 (rf q) (I q)).set k v = dz_fs (dz_fty ci) 0 (rf' q) (I' q)) (e1 : H1[q]? = some (cell.setSlot (D.2 ci k) v)) (e3 : ∀ x, x ≠ q → H1[x]? = H[x]?) (hr : ∀ x : Nat, x ≠ q → rf' x = rf x) (hi : ∀ x : Nat, x ≠ q → I' x = I x) : dz_W D Dt sk rf' I' H1 := by
  refine h.put q _ hq ?_ e3 hr hi
  refine ⟨_, c1, ?_⟩
  show t_OB q (D.1 ci) N (D.2 ci) H1 (vp_V (dz_fs (dz_fty ci) 0 (rf' q) (I' q)))
  rw [← hs]
  exact t_OB.to (V := updV (vp_V (dz_fs (dz_fty ci) 0 (rf q) (I q))) k v) ⟨_, e1, q2, q3, t_set q4 hap hk v⟩ (fun j _ => vp_updV_set hl v j)
theorem dz_puti (am : dz_Am κ cc own) {q ci index : Nat} {k0 v : Int} (hq : sk q = some (.inr ci)) (hf : dz_Fg own index ci k0 false) (hp : dz_Fp ci k0 .int false) (hd : decode cc pc = .ok (.putfield index, 3)) (kk : dz_V κ cells slots sz sk rf (dz_up I q k0 v) (pc + 3) ls st) : dz_V κ cells slots sz sk rf I pc ls (.int (dz_i v) :: .ref q :: st) := by
  obtain ⟨p, l, e, R, s, m, args, below, meth, c, Q, D, Dt, A, nL⟩ := κ
  obtain ⟨hx, hb, hml, hown, hts, hK, hA, hlk, hns⟩ := am
  intro H locs la hz hW hsA hS hc hl
  obtain ⟨C, T, N, k, rfl, c1, c2, c3, c4, c5⟩ := hf
  obtain ⟨C', T', N', k', hkk, p1, p2, p3⟩ := hp
  have hkk2 : k = k' := by omega
  subst hkk2
  cases c1.symm.trans p1
  obtain ⟨f1, f2, f3, f4⟩ := dz_cf ci _ c1
  have hap := va_apart (own := own) hts f1 (dz_ft ci) f3 f2 hK.1 c1
  obtain ⟨r, h1, cell, q1, q2, q3, q4⟩ := hW q _ hq
  have hr : r = (C, T, N) := Option.some.inj (h1.symm.trans c1)
  subst hr
  obtain ⟨hS1, hfc, kC, hkC, hkind⟩ := hK.1.1 ci _ c1
  obtain ⟨cf, kf, fi, f, hi, hsl⟩ := hS1 k c2
  have hlay := hts _ (f1 _ (u_in_lay c2))
  unfold u_lay at hlay
  rw [if_neg (by rw [p3]; decide)] at hlay
  have hst := (u_facts hfc hkC (u_lays hts f1 c2) hi).1
  have h6 := u_store hfc hkC hkind hlay hi p2 (v := .int (dz_i v)) rfl rfl
  have hi' : s.fieldFound? C (T k).2.1 (T k).2.2.1 = some (cf, kf, fi, f) := by rw [← c4]; exact hi
  have hll : k < (dz_fs (dz_fty ci) 0 (rf q) (I q)).length := by rw [dz_fs_len]; exact (List.getElem?_eq_some_iff.mp c3).1
  have fin : ∀ H1 : Heap, H1[q]? = some (cell.setSlot f.slot (.int (dz_i v))) → H1.size = H.size → (∀ x, x ≠ q → H1[x]? = H[x]?) → W p l e R s m args below meth c H1 (locs ++ [⟨q, f.slot⟩]) cells slots Q (F0 m (pc + 3) la st) := by
    intro H1 e1 e2 e3
    rw [hsl] at e1 ⊢
    exact kk H1 _ la (e2.trans hz) (dz_putc hW hq c1 c2 q2 q3 q4 hap hll (by have h9 := dz_fs_seti (rf q) (I q) v (dz_fty ci) 0 k c3; rw [Nat.zero_add] at h9; rw [dz_up_q]; exact h9) e1 e3 (fun _ _ => rfl) (fun x hx => dz_up_n I _ v hx)) hsA (hS.put e2 e3 (hsA _ _ hq)) hc hl
  rcases c5 with c5 | ⟨host, c5⟩
  · exact W.putK hx hb (f := f) ⟨hown, hts _ c5, ⟨_, _, _, hi'⟩, hst⟩ (by rw [q2]; exact h6) q1 q3 (by rw [hsl]; exact k2_hasslot (q4 k c2)) rfl rfl hd fin
  · exact va_WputK hx hb (f := f) hown (va_Nw.use rfl (hK.2.1 _ c5)) hi' hst (by rw [q2]; exact h6) q1 q3 (by rw [hsl]; exact k2_hasslot (q4 k c2)) rfl rfl hd fin
theorem dz_putz (am : dz_Am κ cc own) {q ci index : Nat} {k0 v : Int} (hq : sk q = some (.inr ci)) (hf : dz_Fg own index ci k0 false) (hp : dz_Fp ci k0 .boolean false) (hv : v = 0 ∨ v = 1) (hd : decode cc pc = .ok (.putfield index, 3)) (kk : dz_V κ cells slots sz sk rf (dz_up I q k0 v) (pc + 3) ls st) : dz_V κ cells slots sz sk rf I pc ls (.int (dz_i v) :: .ref q :: st) := by
  obtain ⟨p, l, e, R, s, m, args, below, meth, c, Q, D, Dt, A, nL⟩ := κ
  obtain ⟨hx, hb, hml, hown, hts, hK, hA, hlk, hns⟩ := am
  intro H locs la hz hW hsA hS hc hl
  obtain ⟨C, T, N, k, rfl, c1, c2, c3, c4, c5⟩ := hf
  obtain ⟨C', T', N', k', hkk, p1, p2, p3⟩ := hp
  have hkk2 : k = k' := by omega
  subst hkk2
  cases c1.symm.trans p1
  obtain ⟨f1, f2, f3, f4⟩ := dz_cf ci _ c1
  have hap := va_apart (own := own) hts f1 (dz_ft ci) f3 f2 hK.1 c1
  obtain ⟨r, h1, cell, q1, q2, q3, q4⟩ := hW q _ hq
  have hr : r = (C, T, N) := Option.some.inj (h1.symm.trans c1)
  subst hr
  obtain ⟨hS1, hfc, kC, hkC, hkind⟩ := hK.1.1 ci _ c1
  obtain ⟨cf, kf, fi, f, hi, hsl⟩ := hS1 k c2
  have hlay := hts _ (f1 _ (u_in_lay c2))
  unfold u_lay at hlay
  rw [if_neg (by rw [p3]; decide)] at hlay
  have hst := (u_facts hfc hkC (u_lays hts f1 c2) hi).1
  have h6 := u_store hfc hkC hkind hlay hi p2 (v := .int (dz_i v)) (dz_nbo hv) (dz_fbo hv)
  have hi' : s.fieldFound? C (T k).2.1 (T k).2.2.1 = some (cf, kf, fi, f) := by rw [← c4]; exact hi
  have hll : k < (dz_fs (dz_fty ci) 0 (rf q) (I q)).length := by rw [dz_fs_len]; exact (List.getElem?_eq_some_iff.mp c3).1
  have fin : ∀ H1 : Heap, H1[q]? = some (cell.setSlot f.slot (.int (dz_i v))) → H1.size = H.size → (∀ x, x ≠ q → H1[x]? = H[x]?) → W p l e R s m args below meth c H1 (locs ++ [⟨q, f.slot⟩]) cells slots Q (F0 m (pc + 3) la st) := by
    intro H1 e1 e2 e3
    rw [hsl] at e1 ⊢
    exact kk H1 _ la (e2.trans hz) (dz_putc hW hq c1 c2 q2 q3 q4 hap hll (by have h9 := dz_fs_seti (rf q) (I q) v (dz_fty ci) 0 k c3; rw [Nat.zero_add] at h9; rw [dz_up_q]; exact h9) e1 e3 (fun _ _ => rfl) (fun x hx => dz_up_n I _ v hx)) hsA (hS.put e2 e3 (hsA _ _ hq)) hc hl
  rcases c5 with c5 | ⟨host, c5⟩
  · exact W.putK hx hb (f := f) ⟨hown, hts _ c5, ⟨_, _, _, hi'⟩, hst⟩ (by rw [q2]; exact h6) q1 q3 (by rw [hsl]; exact k2_hasslot (q4 k c2)) rfl rfl hd fin
  · exact va_WputK hx hb (f := f) hown (va_Nw.use rfl (hK.2.1 _ c5)) hi' hst (by rw [q2]; exact h6) q1 q3 (by rw [hsl]; exact k2_hasslot (q4 k c2)) rfl rfl hd fin
theorem dz_iald (am : dz_Am κ cc own) {q n : Nat} {z w : Int} (hq : sk q = some (.inl (0, n))) (hn : n < 2147483648) (hi : 0 ≤ z ∧ z < n) (hd : decode cc pc = .ok (.iaload, 1)) (hv0 : I q z = w) (kk : dz_V κ cells slots sz sk rf I (pc + 1) ls (.int (dz_i w) :: st)) : dz_V κ cells slots sz sk rf I pc ls (.int (dz_i z) :: .ref q :: st) := by
  obtain ⟨p, l, e, R, s, m, args, below, meth, c, Q, D, Dt, A, nL⟩ := κ
  obtain ⟨hx, hb, hml, hown, hts, hK, hA, hlk, hns⟩ := am
  intro H locs la hz hW hsA hS hc hl
  subst hv0
  have e : (((dz_i z).toNatClampNeg : Nat) : Int) = z := by rw [dz_cl (by omega)]; omega
  refine va_iald hx hb hK.1 (hW.one hq) 0 0 rfl rfl (dz_in hi hn) hd ?_
  try dsimp only
  rw [e]
  exact kk H locs la hz hW hsA hS hc hl
theorem dz_cald (am : dz_Am κ cc own) {q n : Nat} {z w : Int} (hq : sk q = some (.inl (1, n))) (hn : n < 2147483648) (hi : 0 ≤ z ∧ z < n) (hd : decode cc pc = .ok (.caload, 1)) (hv0 : I q z = w) (kk : dz_V κ cells slots sz sk rf I (pc + 1) ls (.int (dz_i w) :: st)) : dz_V κ cells slots sz sk rf I pc ls (.int (dz_i z) :: .ref q :: st) := by
  obtain ⟨p, l, e, R, s, m, args, below, meth, c, Q, D, Dt, A, nL⟩ := κ
  obtain ⟨hx, hb, hml, hown, hts, hK, hA, hlk, hns⟩ := am
  intro H locs la hz hW hsA hS hc hl
  subst hv0
  have e : (((dz_i z).toNatClampNeg : Nat) : Int) = z := by rw [dz_cl (by omega)]; omega
  refine va_cald hx hb hK.1 (hW.one hq) 0 1 rfl rfl (dz_in hi hn) hd ?_
  try dsimp only
  rw [e]
  exact kk H locs la hz hW hsA hS hc hl
theorem dz_lald (am : dz_Am κ cc own) {q n : Nat} {z w : Int} (hq : sk q = some (.inl (2, n))) (hn : n < 2147483648) (hi : 0 ≤ z ∧ z < n) (hd : decode cc pc = .ok (.laload, 1)) (hv0 : I q z = w) (kk : dz_V κ cells slots sz sk rf I (pc + 1) ls (.long (dz_i w).toInt64 :: st)) : dz_V κ cells slots sz sk rf I pc ls (.int (dz_i z) :: .ref q :: st) := by
  obtain ⟨p, l, e, R, s, m, args, below, meth, c, Q, D, Dt, A, nL⟩ := κ
  obtain ⟨hx, hb, hml, hown, hts, hK, hA, hlk, hns⟩ := am
  intro H locs la hz hW hsA hS hc hl
  subst hv0
  have e : (((dz_i z).toNatClampNeg : Nat) : Int) = z := by rw [dz_cl (by omega)]; omega
  refine va_lald hx hb hK.1 (hW.one hq) 0 2 rfl rfl (dz_in hi hn) hd ?_
  try dsimp only
  rw [e]
  exact kk H locs la hz hW hsA hS hc hl
theorem dz_aald3 (am : dz_Am κ cc own) {q n a : Nat} {z : Int} (hq : sk q = some (.inl (3, n))) (hn : n < 2147483648) (hi : 0 ≤ z ∧ z < n) (hr : rf q z = some a) (hd : decode cc pc = .ok (.aaload, 1)) (kk : dz_V κ cells slots sz sk rf I (pc + 1) ls (.ref a :: st)) : dz_V κ cells slots sz sk rf I pc ls (.int (dz_i z) :: .ref q :: st) := by
  obtain ⟨p, l, e, R, s, m, args, below, meth, c, Q, D, Dt, A, nL⟩ := κ
  obtain ⟨hx, hb, hml, hown, hts, hK, hA, hlk, hns⟩ := am
  intro H locs la hz hW hsA hS hc hl
  have e : (((dz_i z).toNatClampNeg : Nat) : Int) = z := by rw [dz_cl (by omega)]; omega
  refine va_aldq hx hb hK.1 (hW.one hq) 0 3 rfl rfl (dz_in hi hn) hd ?_
  try dsimp only
  rw [e, hr]
  exact kk H locs la hz hW hsA hS hc hl
theorem dz_aald4 (am : dz_Am κ cc own) {q n a : Nat} {z : Int} (hq : sk q = some (.inl (4, n))) (hn : n < 2147483648) (hi : 0 ≤ z ∧ z < n) (hr : rf q z = some a) (hd : decode cc pc = .ok (.aaload, 1)) (kk : dz_V κ cells slots sz sk rf I (pc + 1) ls (.ref a :: st)) : dz_V κ cells slots sz sk rf I pc ls (.int (dz_i z) :: .ref q :: st) := by
  obtain ⟨p, l, e, R, s, m, args, below, meth, c, Q, D, Dt, A, nL⟩ := κ
  obtain ⟨hx, hb, hml, hown, hts, hK, hA, hlk, hns⟩ := am
  intro H locs la hz hW hsA hS hc hl
  have e : (((dz_i z).toNatClampNeg : Nat) : Int) = z := by rw [dz_cl (by omega)]; omega
  refine va_aldq hx hb hK.1 (hW.one hq) 0 4 rfl rfl (dz_in hi hn) hd ?_
  try dsimp only
  rw [e, hr]
  exact kk H locs la hz hW hsA hS hc hl
theorem dz_iast (am : dz_Am κ cc own) {q n : Nat} {z v : Int} (hq : sk q = some (.inl (0, n))) (hn : n < 2147483648) (hi : 0 ≤ z ∧ z < n)  (hd : decode cc pc = .ok (.iastore, 1)) (kk : dz_V κ cells slots sz sk rf (dz_up I q z v) (pc + 1) ls st) : dz_V κ cells slots sz sk rf I pc ls (.int (dz_i v) :: .int (dz_i z) :: .ref q :: st) := by
  obtain ⟨p, l, e, R, s, m, args, below, meth, c, Q, D, Dt, A, nL⟩ := κ
  obtain ⟨hx, hb, hml, hown, hts, hK, hA, hlk, hns⟩ := am
  intro H locs la hz hW hsA hS hc hl
  have e : (((dz_i z).toNatClampNeg : Nat) : Int) = z := by rw [dz_cl (by omega)]; omega
  have hcell : H[q]? = some (arrV (Dt 0) n (fun j => .int (dz_i (I q (j : Int))))) := hW q _ hq
  refine W.iast hx hb hcell ((hK.1.2 0 _ rfl).1 n _) (fun h => by cases h) (by rw [arrV_size]; exact dz_in hi hn) rfl rfl hd fun H1 e1 z1 oq => ?_
  refine kk H1 _ la (z1.trans hz) (hW.put q _ hq ?_ oq (fun _ _ => rfl) (fun x hx => dz_up_n I _ v hx)) hsA (hS.put z1 oq (hsA _ _ hq)) hc hl
  show H1[q]? = some (arrV (Dt 0) n (fun j => .int (dz_i (dz_up I q z v q (j : Int)))))
  rw [e1, arrV_store]
  congr 2
  funext j
  rw [dz_up_q]
  by_cases hj : (j : Int) = z
  · rw [hj, dz_u_s]
    have hj2 : j = (dz_i z).toNatClampNeg := by omega
    simp [updV, hj2]
  · rw [dz_u_n _ _ hj]
    have hj2 : ¬ j = (dz_i z).toNatClampNeg := by omega
    simp [updV, hj2]
theorem dz_cast (am : dz_Am κ cc own) {q n : Nat} {z v : Int} (hq : sk q = some (.inl (1, n))) (hn : n < 2147483648) (hi : 0 ≤ z ∧ z < n) (hv : 0 ≤ v ∧ v < 65536) (hd : decode cc pc = .ok (.castore, 1)) (kk : dz_V κ cells slots sz sk rf (dz_up I q z v) (pc + 1) ls st) : dz_V κ cells slots sz sk rf I pc ls (.int (dz_i v) :: .int (dz_i z) :: .ref q :: st) := by
  obtain ⟨p, l, e, R, s, m, args, below, meth, c, Q, D, Dt, A, nL⟩ := κ
  obtain ⟨hx, hb, hml, hown, hts, hK, hA, hlk, hns⟩ := am
  intro H locs la hz hW hsA hS hc hl
  have e : (((dz_i z).toNatClampNeg : Nat) : Int) = z := by rw [dz_cl (by omega)]; omega
  have hcell : H[q]? = some (arrV (Dt 1) n (fun j => .int (dz_i (I q (j : Int))))) := hW q _ hq
  refine W.cast hx hb hcell ((hK.1.2 1 _ rfl).1 n _) (fun h => by cases h) (by rw [arrV_size]; exact dz_in hi hn) rfl rfl hd fun H1 e1 z1 oq => ?_
  refine kk H1 _ la (z1.trans hz) (hW.put q _ hq ?_ oq (fun _ _ => rfl) (fun x hx => dz_up_n I _ v hx)) hsA (hS.put z1 oq (hsA _ _ hq)) hc hl
  show H1[q]? = some (arrV (Dt 1) n (fun j => .int (dz_i (dz_up I q z v q (j : Int)))))
  rw [e1, arrV_store]
  congr 2
  funext j
  rw [dz_up_q]
  by_cases hj : (j : Int) = z
  · rw [hj, dz_u_s]
    have hj2 : j = (dz_i z).toNatClampNeg := by omega
    simp [updV, hj2, dz_nch hv]
  · rw [dz_u_n _ _ hj]
    have hj2 : ¬ j = (dz_i z).toNatClampNeg := by omega
    simp [updV, hj2]
theorem dz_last (am : dz_Am κ cc own) {q n : Nat} {z v : Int} (hq : sk q = some (.inl (2, n))) (hn : n < 2147483648) (hi : 0 ≤ z ∧ z < n)  (hd : decode cc pc = .ok (.lastore, 1)) (kk : dz_V κ cells slots sz sk rf (dz_up I q z v) (pc + 1) ls st) : dz_V κ cells slots sz sk rf I pc ls (.long (dz_i v).toInt64 :: .int (dz_i z) :: .ref q :: st) := by
  obtain ⟨p, l, e, R, s, m, args, below, meth, c, Q, D, Dt, A, nL⟩ := κ
  obtain ⟨hx, hb, hml, hown, hts, hK, hA, hlk, hns⟩ := am
  intro H locs la hz hW hsA hS hc hl
  have e : (((dz_i z).toNatClampNeg : Nat) : Int) = z := by rw [dz_cl (by omega)]; omega
  have hcell : H[q]? = some (arrV (Dt 2) n (fun j => .long (dz_i (I q (j : Int))).toInt64)) := hW q _ hq
  refine W.last hx hb hcell ((hK.1.2 2 _ rfl).1 n _) (fun h => by cases h) (by rw [arrV_size]; exact dz_in hi hn) rfl rfl hd fun H1 e1 z1 oq => ?_
  refine kk H1 _ la (z1.trans hz) (hW.put q _ hq ?_ oq (fun _ _ => rfl) (fun x hx => dz_up_n I _ v hx)) hsA (hS.put z1 oq (hsA _ _ hq)) hc hl
  show H1[q]? = some (arrV (Dt 2) n (fun j => .long (dz_i (dz_up I q z v q (j : Int))).toInt64))
  rw [e1, arrV_store]
  congr 2
  funext j
  rw [dz_up_q]
  by_cases hj : (j : Int) = z
  · rw [hj, dz_u_s]
    have hj2 : j = (dz_i z).toNatClampNeg := by omega
    simp [updV, hj2]
  · rw [dz_u_n _ _ hj]
    have hj2 : ¬ j = (dz_i z).toNatClampNeg := by omega
    simp [updV, hj2]
theorem dz_alen (am : dz_Am κ cc own) {q n kd : Nat} (hq : sk q = some (.inl (kd, n))) (hk : kd < 5) (hd : decode cc pc = .ok (.arraylength, 1)) (kk : dz_V κ cells slots sz sk rf I (pc + 1) ls (.int (dz_i (n : Int)) :: st)) : dz_V κ cells slots sz sk rf I pc ls (.ref q :: st) := by
  obtain ⟨p, l, e, R, s, m, args, below, meth, c, Q, D, Dt, A, nL⟩ := κ
  obtain ⟨hx, hb, hml, hown, hts, hK, hA, hlk, hns⟩ := am
  intro H locs la hz hW hsA hS hc hl
  have hv : Int32.ofNat n = dz_i (n : Int) := by unfold dz_i; rw [Int32.ofInt_eq_ofNat]
  have ht : ∃ ty : FieldType, (dz_tys Dt)[kd]? = some (Dt kd, ty) := by
    rcases kd with _ | _ | _ | _ | _ | kd
    · exact ⟨_, rfl⟩
    · exact ⟨_, rfl⟩
    · exact ⟨_, rfl⟩
    · exact ⟨_, rfl⟩
    · exact ⟨_, rfl⟩
    · omega
  obtain ⟨ty, ht⟩ := ht
  exact va_alen hx hb hK.1 (hW.one hq) 0 kd rfl ht hv hd (kk H locs la hz hW hsA hS hc hl)
end dz_rows
