/-! THE LAYOUT: what lies where behind the two constructors, from the address b on. -/
def ly_k (o : Nat) : Option ((Nat × Nat) ⊕ Nat) :=
  if o = 0 then some (.inr 7) else
  if o = 1 then some (.inr 0) else
  if o = 2 then some (.inl (1, 80)) else
  if o = 3 then some (.inr 1) else
  if o = 4 then some (.inl (3, 24)) else
  if o = 77 then some (.inr 3) else
  if o = 78 then some (.inr 4) else
  if o = 79 then some (.inl (1, 1200)) else
  if o = 80 then some (.inr 5) else
  if o = 81 then some (.inl (4, 12)) else
  if o = 130 then some (.inr 8) else
  if o = 131 then some (.inl (1, 80)) else
  if o = 132 then some (.inl (0, 24)) else
  if o = 133 then some (.inl (0, 24)) else
  if o = 134 then some (.inl (1, 144)) else
  if o = 135 then some (.inl (0, 24)) else
  if o = 136 then some (.inl (0, 72)) else
  if o = 137 then some (.inl (0, 12)) else
  if o = 138 then some (.inl (0, 12)) else
  if o = 139 then some (.inl (0, 2880)) else
  if o = 140 then some (.inl (0, 2880)) else
  if o = 141 then some (.inl (1, 1500)) else
  if o = 142 then some (.inl (0, 40)) else
  if o = 143 then some (.inl (0, 40)) else
  if o = 144 then some (.inl (0, 12)) else
  if o = 145 then some (.inl (2, 1)) else
  if 5 ≤ o ∧ o < 77 then (if (o - 5) % 3 = 0 then some (.inr 2) else if (o - 5) % 3 = 1 then some (.inl (1, 6)) else some (.inl (0, 3))) else
  if 82 ≤ o ∧ o < 130 then (if (o - 82) % 4 = 0 then some (.inr 6) else some (.inl (0, 200))) else none
def ly_s (b : Nat) : dz_Sk := fun q => if q < b then none else ly_k (q - b)
def ly_rr (o : Nat) (k : Int) : Option Nat :=
  if o = 0 ∧ k = 0 then some 1 else
  if o = 0 ∧ k = 1 then some 3 else
  if o = 0 ∧ k = 2 then some 77 else
  if o = 0 ∧ k = 3 then some 78 else
  if o = 0 ∧ k = 4 then some 80 else
  if o = 1 ∧ k = 0 then some 2 else
  if o = 3 ∧ k = 0 then some 4 else
  if o = 77 ∧ k = 0 then some 1 else
  if o = 77 ∧ k = 1 then some 3 else
  if o = 78 ∧ k = 0 then some 3 else
  if o = 78 ∧ k = 1 then some 79 else
  if o = 80 ∧ k = 3 then some 81 else
  if o = 130 ∧ k = 4 then some 131 else
  if o = 130 ∧ k = 6 then some 132 else
  if o = 130 ∧ k = 7 then some 133 else
  if o = 130 ∧ k = 8 then some 134 else
  if o = 130 ∧ k = 9 then some 135 else
  if o = 130 ∧ k = 10 then some 136 else
  if o = 130 ∧ k = 13 then some 137 else
  if o = 130 ∧ k = 14 then some 138 else
  if o = 130 ∧ k = 15 then some 139 else
  if o = 130 ∧ k = 16 then some 140 else
  if o = 130 ∧ k = 18 then some 141 else
  if o = 130 ∧ k = 20 then some 142 else
  if o = 130 ∧ k = 26 then some 143 else
  if o = 130 ∧ k = 27 then some 144 else
  if o = 4 then (if 0 ≤ k ∧ k < 24 then some (5 + 3 * k.toNat) else none) else
  if o = 81 then (if 0 ≤ k ∧ k < 12 then some (82 + 4 * k.toNat) else none) else
  if 5 ≤ o ∧ o < 77 ∧ (o - 5) % 3 = 0 then (if k = 1 then some (o + 1) else if k = 3 then some (o + 2) else none) else
  if 82 ≤ o ∧ o < 130 ∧ (o - 82) % 4 = 0 then (if k = 1 then some (o + 1) else if k = 3 then some (o + 2) else if k = 5 then some (o + 3) else none) else none
def ly_r (b : Nat) : dz_Rf := fun q k => if q < b then none else (ly_rr (q - b) k).map (fun x => b + x)
theorem ly_at (b o : Nat) : ly_s b (b + o) = ly_k o := by unfold ly_s; rw [if_neg (by omega), Nat.add_sub_cancel_left]
theorem ly_rat (b o : Nat) (k : Int) : ly_r b (b + o) k = (ly_rr o k).map (fun x => b + x) := by unfold ly_r; rw [if_neg (by omega), Nat.add_sub_cancel_left]
theorem ly_DotBook (b : Nat) : ly_s b (b + 0) = some (.inr 7) := by rw [ly_at]; rfl
theorem ly_Typed (b : Nat) : ly_s b (b + 1) = some (.inr 0) := by rw [ly_at]; rfl
theorem ly_TypedRow (b : Nat) : ly_s b (b + 2) = some (.inl (1, 80)) := by rw [ly_at]; rfl
theorem ly_RuleList (b : Nat) : ly_s b (b + 3) = some (.inr 1) := by rw [ly_at]; rfl
theorem ly_RuleArr (b : Nat) : ly_s b (b + 4) = some (.inl (3, 24)) := by rw [ly_at]; rfl
theorem ly_Rule (b : Nat) {i : Nat} (h : i < 24) : ly_s b (b + (5 + 3 * i)) = some (.inr 2) := by
  rw [ly_at]; unfold ly_k
  repeat rw [if_neg (by omega)]
  rw [if_pos (by omega)]; repeat (first | rw [if_pos (by omega)] | rw [if_neg (by omega)])
theorem ly_Letters (b : Nat) {i : Nat} (h : i < 24) : ly_s b (b + (6 + 3 * i)) = some (.inl (1, 6)) := by
  rw [ly_at]; unfold ly_k
  repeat rw [if_neg (by omega)]
  rw [if_pos (by omega)]; repeat (first | rw [if_pos (by omega)] | rw [if_neg (by omega)])
theorem ly_RCells (b : Nat) {i : Nat} (h : i < 24) : ly_s b (b + (7 + 3 * i)) = some (.inl (0, 3)) := by
  rw [ly_at]; unfold ly_k
  repeat rw [if_neg (by omega)]
  rw [if_pos (by omega)]; repeat (first | rw [if_pos (by omega)] | rw [if_neg (by omega)])
theorem ly_Translator (b : Nat) : ly_s b (b + 77) = some (.inr 3) := by rw [ly_at]; rfl
theorem ly_Reader (b : Nat) : ly_s b (b + 78) = some (.inr 4) := by rw [ly_at]; rfl
theorem ly_ReaderRow (b : Nat) : ly_s b (b + 79) = some (.inl (1, 1200)) := by rw [ly_at]; rfl
theorem ly_Book (b : Nat) : ly_s b (b + 80) = some (.inr 5) := by rw [ly_at]; rfl
theorem ly_BlockArr (b : Nat) : ly_s b (b + 81) = some (.inl (4, 12)) := by rw [ly_at]; rfl
theorem ly_Block (b : Nat) {i : Nat} (h : i < 12) : ly_s b (b + (82 + 4 * i)) = some (.inr 6) := by
  rw [ly_at]; unfold ly_k
  repeat rw [if_neg (by omega)]
  rw [if_pos (by omega)]; repeat (first | rw [if_pos (by omega)] | rw [if_neg (by omega)])
theorem ly_BCells (b : Nat) {i : Nat} (h : i < 12) : ly_s b (b + (83 + 4 * i)) = some (.inl (0, 200)) := by
  rw [ly_at]; unfold ly_k
  repeat rw [if_neg (by omega)]
  rw [if_pos (by omega)]; repeat (first | rw [if_pos (by omega)] | rw [if_neg (by omega)])
theorem ly_Laid (b : Nat) {i : Nat} (h : i < 12) : ly_s b (b + (84 + 4 * i)) = some (.inl (0, 200)) := by
  rw [ly_at]; unfold ly_k
  repeat rw [if_neg (by omega)]
  rw [if_pos (by omega)]; repeat (first | rw [if_pos (by omega)] | rw [if_neg (by omega)])
theorem ly_LineBegins (b : Nat) {i : Nat} (h : i < 12) : ly_s b (b + (85 + 4 * i)) = some (.inl (0, 200)) := by
  rw [ly_at]; unfold ly_k
  repeat rw [if_neg (by omega)]
  rw [if_pos (by omega)]; repeat (first | rw [if_pos (by omega)] | rw [if_neg (by omega)])
theorem ly_Model (b : Nat) : ly_s b (b + 130) = some (.inr 8) := by rw [ly_at]; rfl
theorem ly_MTyped (b : Nat) : ly_s b (b + 131) = some (.inl (1, 80)) := by rw [ly_at]; rfl
theorem ly_MKinds (b : Nat) : ly_s b (b + 132) = some (.inl (0, 24)) := by rw [ly_at]; rfl
theorem ly_MLetterCount (b : Nat) : ly_s b (b + 133) = some (.inl (0, 24)) := by rw [ly_at]; rfl
theorem ly_MLetters (b : Nat) : ly_s b (b + 134) = some (.inl (1, 144)) := by rw [ly_at]; rfl
theorem ly_MCellCount (b : Nat) : ly_s b (b + 135) = some (.inl (0, 24)) := by rw [ly_at]; rfl
theorem ly_MRuleCells (b : Nat) : ly_s b (b + 136) = some (.inl (0, 72)) := by rw [ly_at]; rfl
theorem ly_MBlockKind (b : Nat) : ly_s b (b + 137) = some (.inl (0, 12)) := by rw [ly_at]; rfl
theorem ly_MSizes (b : Nat) : ly_s b (b + 138) = some (.inl (0, 12)) := by rw [ly_at]; rfl
theorem ly_MCells (b : Nat) : ly_s b (b + 139) = some (.inl (0, 2880)) := by rw [ly_at]; rfl
theorem ly_MOrigins (b : Nat) : ly_s b (b + 140) = some (.inl (0, 2880)) := by rw [ly_at]; rfl
theorem ly_MHeard (b : Nat) : ly_s b (b + 141) = some (.inl (1, 1500)) := by rw [ly_at]; rfl
theorem ly_MRow (b : Nat) : ly_s b (b + 142) = some (.inl (0, 40)) := by rw [ly_at]; rfl
theorem ly_MWanted (b : Nat) : ly_s b (b + 143) = some (.inl (0, 40)) := by rw [ly_at]; rfl
theorem ly_MPlaces (b : Nat) : ly_s b (b + 144) = some (.inl (0, 12)) := by rw [ly_at]; rfl
theorem ly_Out (b : Nat) : ly_s b (b + 145) = some (.inl (2, 1)) := by rw [ly_at]; rfl
theorem lr_DotBook_0 (b : Nat) : ly_r b (b + 0) 0 = some (b + 1) := by rw [ly_rat]; rfl
theorem lr_DotBook_1 (b : Nat) : ly_r b (b + 0) 1 = some (b + 3) := by rw [ly_rat]; rfl
theorem lr_DotBook_2 (b : Nat) : ly_r b (b + 0) 2 = some (b + 77) := by rw [ly_rat]; rfl
theorem lr_DotBook_3 (b : Nat) : ly_r b (b + 0) 3 = some (b + 78) := by rw [ly_rat]; rfl
theorem lr_DotBook_4 (b : Nat) : ly_r b (b + 0) 4 = some (b + 80) := by rw [ly_rat]; rfl
theorem lr_Typed_0 (b : Nat) : ly_r b (b + 1) 0 = some (b + 2) := by rw [ly_rat]; rfl
theorem lr_RuleList_0 (b : Nat) : ly_r b (b + 3) 0 = some (b + 4) := by rw [ly_rat]; rfl
theorem lr_Translator_0 (b : Nat) : ly_r b (b + 77) 0 = some (b + 1) := by rw [ly_rat]; rfl
theorem lr_Translator_1 (b : Nat) : ly_r b (b + 77) 1 = some (b + 3) := by rw [ly_rat]; rfl
theorem lr_Reader_0 (b : Nat) : ly_r b (b + 78) 0 = some (b + 3) := by rw [ly_rat]; rfl
theorem lr_Reader_1 (b : Nat) : ly_r b (b + 78) 1 = some (b + 79) := by rw [ly_rat]; rfl
theorem lr_Book_3 (b : Nat) : ly_r b (b + 80) 3 = some (b + 81) := by rw [ly_rat]; rfl
theorem lr_Model_4 (b : Nat) : ly_r b (b + 130) 4 = some (b + 131) := by rw [ly_rat]; rfl
theorem lr_Model_6 (b : Nat) : ly_r b (b + 130) 6 = some (b + 132) := by rw [ly_rat]; rfl
theorem lr_Model_7 (b : Nat) : ly_r b (b + 130) 7 = some (b + 133) := by rw [ly_rat]; rfl
theorem lr_Model_8 (b : Nat) : ly_r b (b + 130) 8 = some (b + 134) := by rw [ly_rat]; rfl
theorem lr_Model_9 (b : Nat) : ly_r b (b + 130) 9 = some (b + 135) := by rw [ly_rat]; rfl
theorem lr_Model_10 (b : Nat) : ly_r b (b + 130) 10 = some (b + 136) := by rw [ly_rat]; rfl
theorem lr_Model_13 (b : Nat) : ly_r b (b + 130) 13 = some (b + 137) := by rw [ly_rat]; rfl
theorem lr_Model_14 (b : Nat) : ly_r b (b + 130) 14 = some (b + 138) := by rw [ly_rat]; rfl
theorem lr_Model_15 (b : Nat) : ly_r b (b + 130) 15 = some (b + 139) := by rw [ly_rat]; rfl
theorem lr_Model_16 (b : Nat) : ly_r b (b + 130) 16 = some (b + 140) := by rw [ly_rat]; rfl
theorem lr_Model_18 (b : Nat) : ly_r b (b + 130) 18 = some (b + 141) := by rw [ly_rat]; rfl
theorem lr_Model_20 (b : Nat) : ly_r b (b + 130) 20 = some (b + 142) := by rw [ly_rat]; rfl
theorem lr_Model_26 (b : Nat) : ly_r b (b + 130) 26 = some (b + 143) := by rw [ly_rat]; rfl
theorem lr_Model_27 (b : Nat) : ly_r b (b + 130) 27 = some (b + 144) := by rw [ly_rat]; rfl
theorem lr_RuleArr (b : Nat) {i : Nat} (h : i < 24) : ly_r b (b + 4) (i : Int) = some (b + (5 + 3 * i)) := by
  rw [ly_rat]; unfold ly_rr; repeat rw [if_neg (by omega)]
  rw [if_pos rfl, if_pos (by omega)]; simp
theorem lr_BlockArr (b : Nat) {i : Nat} (h : i < 12) : ly_r b (b + 81) (i : Int) = some (b + (82 + 4 * i)) := by
  rw [ly_rat]; unfold ly_rr; repeat rw [if_neg (by omega)]
  rw [if_pos rfl, if_pos (by omega)]; simp
theorem lr_Rule_1 (b : Nat) {i : Nat} (h : i < 24) : ly_r b (b + (5 + 3 * i)) 1 = some (b + (6 + 3 * i)) := by
  rw [ly_rat]; unfold ly_rr; repeat rw [if_neg (by omega)]
  rw [if_pos (by omega)]; simp; omega
theorem lr_Rule_3 (b : Nat) {i : Nat} (h : i < 24) : ly_r b (b + (5 + 3 * i)) 3 = some (b + (7 + 3 * i)) := by
  rw [ly_rat]; unfold ly_rr; repeat rw [if_neg (by omega)]
  rw [if_pos (by omega)]; simp; omega
theorem lr_Block_1 (b : Nat) {i : Nat} (h : i < 12) : ly_r b (b + (82 + 4 * i)) 1 = some (b + (83 + 4 * i)) := by
  rw [ly_rat]; unfold ly_rr; repeat rw [if_neg (by omega)]
  rw [if_pos (by omega)]; simp; omega
theorem lr_Block_3 (b : Nat) {i : Nat} (h : i < 12) : ly_r b (b + (82 + 4 * i)) 3 = some (b + (84 + 4 * i)) := by
  rw [ly_rat]; unfold ly_rr; repeat rw [if_neg (by omega)]
  rw [if_pos (by omega)]; simp; omega
theorem lr_Block_5 (b : Nat) {i : Nat} (h : i < 12) : ly_r b (b + (82 + 4 * i)) 5 = some (b + (85 + 4 * i)) := by
  rw [ly_rat]; unfold ly_rr; repeat rw [if_neg (by omega)]
  rw [if_pos (by omega)]; simp; omega
/-- a contract of a method that makes no cell, over the layout -/
def ly_M (l : Launch) (D : va_G) (Dt : Nat → ClassId) (b sz : Nat) (y : MethodName) (cc : ByteArray) (nL : Nat) (ret : Option FieldType) (d : Nat) (av : List Value) (I : dz_Hp) (post : Option Value → dz_Hp → Prop) : Prop :=
  dz_C l D Dt y cc nL ret d 0 0 av sz (ly_s b) (ly_r b) I (fun v sz' sk' rf' I' => sz' = sz ∧ sk' = ly_s b ∧ rf' = ly_r b ∧ post v I')
/-- the judgement over the layout -/
def ly_V (κ : dz_Kx) (b sz : Nat) (I : dz_Hp) (pc : Nat) (ls : List (Nat × Value)) (st : List Value) : Prop := dz_V κ 0 0 sz (ly_s b) (ly_r b) I pc ls st
/-- what a walk over the layout carries -/
def ly_X (κ : dz_Kx) (l : Launch) (D : va_G) (Dt : Nat → ClassId) (b sz : Nat) (cc : ByteArray) (own : String) (nL : Nat) (ret : Option FieldType) (d : Nat) (post : Option Value → dz_Hp → Prop) : Prop :=
  dz_Am κ cc own ∧ dz_Dd κ l D Dt nL ∧ dz_Rt κ 0 0 (ly_s b) sz (fun v sz' sk' rf' I' => sz' = sz ∧ sk' = ly_s b ∧ rf' = ly_r b ∧ post v I') ret ∧ dz_Rm κ d 0 0
theorem ly_enter {l : Launch} {D : va_G} {Dt : Nat → ClassId} {b sz : Nat} {y : MethodName} {cc : ByteArray} {nL : Nat} {ret : Option FieldType} {d : Nat} {av : List Value} {I : dz_Hp} {post : Option Value → dz_Hp → Prop} (own : String) (hy : plainName y.cls = true) (ho : y.cls = own) (hlen : (lg_sl av).length ≤ nL) (hcat : ∀ q, q ∈ lv_args 0 av → q.2.category = 1)
    (h : ∀ κ : dz_Kx, ly_X κ l D Dt b sz cc own nL ret d post → ly_V κ b sz I 0 (lv_args 0 av) []) : ly_M l D Dt b sz y cc nL ret d av I post :=
  dz_enter own hy ho hlen hcat (fun κ am dd rt rm _ => h κ ⟨am, dd, rt, rm⟩)
section ly_rows
variable {κ : dz_Kx} {l : Launch} {D : va_G} {Dt : Nat → ClassId} {b sz : Nat} {cc : ByteArray} {own : String} {nL : Nat} {ret : Option FieldType} {d : Nat} {post : Option Value → dz_Hp → Prop} {I : dz_Hp} {pc : Nat} {ls : List (Nat × Value)} {st : List Value}
theorem ly_N (h : ly_X κ l D Dt b sz cc own nL ret d post) : dz_n κ = nL := by
  obtain ⟨p, l', e, R, s, m, args, below, meth, c, Q, D', Dt', A, nL'⟩ := κ
  exact h.2.1.2.2.2
theorem ly_vret (x : ly_X κ l D Dt b sz cc own nL none d post) (hd : decode cc pc = .ok (.return_, 1)) (hp : post none I) : ly_V κ b sz I pc ls [] := dz_vret x.1 x.2.2.1 hd ⟨rfl, rfl, rfl, hp⟩
theorem ly_iret {z : Int} {ty : FieldType} (x : ly_X κ l D Dt b sz cc own nL (some ty) d post) (hd : decode cc pc = .ok (.ireturn, 1)) (hn : narrow ty (.int (dz_i z)) = .int (dz_i z)) (hp : post (some (.int (dz_i z))) I) : ly_V κ b sz I pc ls [.int (dz_i z)] := dz_iret x.1 x.2.2.1 hn hd ⟨rfl, rfl, rfl, hp⟩
theorem ly_aret {v : Value} {nm : String} (x : ly_X κ l D Dt b sz cc own nL (some (.object nm)) d post) (hd : decode cc pc = .ok (.areturn, 1)) (hv : v = .null ∨ ∃ a, v = .ref a) (hp : post (some v) I) : ly_V κ b sz I pc ls [v] := dz_aret x.1 x.2.2.1 hv hd ⟨rfl, rfl, rfl, hp⟩
variable {y : MethodName} {bc : ByteArray} {nL' d' n index : Nat} {ret' : Option FieldType} {post' : Option Value → dz_Hp → Prop} {As rest : List Value} {a : Nat}
theorem ly_callV (x : ly_X κ l D Dt b sz cc own nL ret d post) (hg : dz_Cg own index y bc nL' ret' n 0) (hC : ly_M l D Dt b sz y bc nL' ret' d' (.ref a :: As) I post') (hd0 : d' + 1 ≤ d) {ci : Nat} (hq : ly_s b a = some (.inr ci)) {r : vw_C} (hci : vwCl[ci]? = some r) (hrc : r.1 = y.cls) (hn : As.length = n) {st0 : List Value} (hst0 : st0 = As.reverse ++ .ref a :: rest) (hst : (rest.map fun v => v.category).sum ≤ 8) (hd : decode cc pc = .ok (.invokevirtual index, 3))
    (kk : ∀ v I', post' v I' → ly_V κ b sz I' (pc + 3) ls (v.toList ++ rest)) : ly_V κ b sz I pc ls st0 :=
  dz_callV x.1 x.2.1 x.2.2.2 hg hC hd0 (Nat.le_refl _) (Nat.le_refl _) hq hci hrc hn hst0 hst hd (fun v sz' sk' rf' I' h => by obtain ⟨rfl, rfl, rfl, h⟩ := h; exact kk v I' h)
theorem ly_callS (x : ly_X κ l D Dt b sz cc own nL ret d post) (hg : dz_Cg own index y bc nL' ret' n 1) (hC : ly_M l D Dt b sz y bc nL' ret' d' As I post') (hd0 : d' + 1 ≤ d) (hn : As.length = n) {st0 : List Value} (hst0 : st0 = As.reverse ++ rest) (hst : (rest.map fun v => v.category).sum ≤ 8) (hd : decode cc pc = .ok (.invokestatic index, 3))
    (kk : ∀ v I', post' v I' → ly_V κ b sz I' (pc + 3) ls (v.toList ++ rest)) : ly_V κ b sz I pc ls st0 :=
  dz_callS x.1 x.2.1 x.2.2.2 hg hC hd0 (Nat.le_refl _) (Nat.le_refl _) hn hst0 hst hd (fun v sz' sk' rf' I' h => by obtain ⟨rfl, rfl, rfl, h⟩ := h; exact kk v I' h)
end ly_rows
