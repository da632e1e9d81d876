theorem ct_z_le {α : Nat → Int → Bool} {I : dz_Hp} {q0 q1 : Nat} (h : ct_z α I q0) (hq : q0 ≤ q1) : ct_z α I q1 := fun q h' => h q (by omega)
theorem ct_ty {b k o : Nat} {x : (Nat × Nat) ⊕ Nat} (h : o < k) (hk : ly_k o = some x) : ct_s b k (b + o) = some x := by rw [ct_s_lt h, hk]
theorem lk_Rule {i : Nat} (h : i < 24) : ly_k (5 + 3 * i) = some (.inr 2) := by have := ly_Rule 0 h; rwa [ly_at] at this
theorem lk_Letters {i : Nat} (h : i < 24) : ly_k (6 + 3 * i) = some (.inl (1, 6)) := by have := ly_Letters 0 h; rwa [ly_at] at this
theorem lk_RCells {i : Nat} (h : i < 24) : ly_k (7 + 3 * i) = some (.inl (0, 3)) := by have := ly_RCells 0 h; rwa [ly_at] at this
theorem lk_Block {i : Nat} (h : i < 12) : ly_k (82 + 4 * i) = some (.inr 6) := by have := ly_Block 0 h; rwa [ly_at] at this
theorem lk_BCells {i : Nat} (h : i < 12) : ly_k (83 + 4 * i) = some (.inl (0, 200)) := by have := ly_BCells 0 h; rwa [ly_at] at this
theorem lk_Laid {i : Nat} (h : i < 12) : ly_k (84 + 4 * i) = some (.inl (0, 200)) := by have := ly_Laid 0 h; rwa [ly_at] at this
theorem lk_LineBegins {i : Nat} (h : i < 12) : ly_k (85 + 4 * i) = some (.inl (0, 200)) := by have := ly_LineBegins 0 h; rwa [ly_at] at this
/-- a constructor's contract -/
def ct_M (l : Launch) (D : va_G) (Dt : Nat → ClassId) (b : Nat) (y : MethodName) (cc : ByteArray) (nL d mc ms : Nat) (av : List Value) (k : Nat) (α : Nat → Int → Bool) (I : dz_Hp) (k' : Nat) (α' : Nat → Int → Bool) (I' : dz_Hp) : Prop :=
  dz_C l D Dt y cc nL none d mc ms av (b + k) (ct_s b k) (ct_r b α) I (fun v sz' sk' rf' I9 => v = none ∧ sz' = b + k' ∧ sk' = ct_s b k' ∧ rf' = ct_r b α' ∧ I9 = I')
set_option maxRecDepth 100000 in
set_option maxHeartbeats 4000000 in
theorem c_Typed_init (l : Launch) (D : va_G) (Dt : Nat → ClassId) (b : Nat) (α : Nat → Int → Bool) (I : dz_Hp)  (hZ : ct_z α I (b + 2)) : ct_M l D Dt b y_Typed_init b_Typed_init 1 2 1 80 [.ref (b + 1)] 2 α I 3 (ct_a α (b + 1) 0) I := by
  refine dz_enter R_Typed (by decide) rfl (Nat.le_of_ble_eq_true rfl) (ly_cat _ 0 rfl) (fun κ am hDd rt rm hin => ?_)
  have x : dz_Am κ b_Typed_init R_Typed ∧ True := ⟨am, trivial⟩
  have hN : dz_n κ = 1 := by obtain ⟨p, l', e, R, s, m, args, below, meth, c, Q, D', Dt', A, nL'⟩ := κ; exact hDd.2.2.2
  show dz_V κ 0 0 (b + 2) (ct_s b 2) (ct_r b α) I 0 [(0, .ref (b + 1))] []
  refine dz_aload_n x.1 0 d_Typed_init_0 rfl rfl ?_
  refine dz_objI x.1 rm (by decide) oi_Typed (Nat.le_of_ble_eq_true rfl) d_Typed_init_1 ?_
  refine dz_aload_n x.1 0 d_Typed_init_4 rfl rfl ?_
  refine dz_bipush x.1 d_Typed_init_5 (by decide) ?_
  refine ct_newa x.1 rm 1 80 (by decide) rfl (by decide) al_char hZ d_Typed_init_7 (by omega) (by omega) ?_
  show dz_V κ 1 80 (b + 3) (ct_s b 3) (ct_r b α) I 9 [(0, .ref (b + 1))] [.ref (b + 2), .ref (b + 1)]
  refine dz_putrF x.1 (ct_ty (b := b) (by omega) rfl) fl_Typed_9 fr_Typed_0 hin d_Typed_init_9 ?_
  rw [ct_r_set (lr_Typed_0 b)]
  show dz_V κ 1 80 (b + 3) (ct_s b 3) (ct_r b (ct_a α (b + 1) 0)) I 12 [(0, .ref (b + 1))] []
  exact dz_vret x.1 rt d_Typed_init_12 ⟨rfl, rfl, rfl, rfl, rfl⟩
set_option maxRecDepth 100000 in
set_option maxHeartbeats 4000000 in
theorem c_Rule_init (l : Launch) (D : va_G) (Dt : Nat → ClassId) (b : Nat) (α : Nat → Int → Bool) (I : dz_Hp) (i : Nat) (hi : i < 24) (hZ : ct_z α I (b + (6 + 3 * i))) : ct_M l D Dt b y_Rule_init b_Rule_init 1 2 2 9 [.ref (b + (5 + 3 * i))] (6 + 3 * i) α I (8 + 3 * i) (ct_a (ct_a α (b + (5 + 3 * i)) 1) (b + (5 + 3 * i)) 3) I := by
  refine dz_enter R_Rule (by decide) rfl (Nat.le_of_ble_eq_true rfl) (ly_cat _ 0 rfl) (fun κ am hDd rt rm hin => ?_)
  have x : dz_Am κ b_Rule_init R_Rule ∧ True := ⟨am, trivial⟩
  have hN : dz_n κ = 1 := by obtain ⟨p, l', e, R, s, m, args, below, meth, c, Q, D', Dt', A, nL'⟩ := κ; exact hDd.2.2.2
  show dz_V κ 0 0 (b + (6 + 3 * i)) (ct_s b (6 + 3 * i)) (ct_r b α) I 0 [(0, .ref (b + (5 + 3 * i)))] []
  refine dz_aload_n x.1 0 d_Rule_init_0 rfl rfl ?_
  refine dz_objI x.1 rm (by decide) oi_Rule (Nat.le_of_ble_eq_true rfl) d_Rule_init_1 ?_
  refine dz_aload_n x.1 0 d_Rule_init_4 rfl rfl ?_
  refine dz_bipush x.1 d_Rule_init_5 (by decide) ?_
  refine ct_newa x.1 rm 1 6 (by decide) (lk_Letters hi) (by decide) al_char hZ d_Rule_init_7 (by omega) (by omega) ?_
  rw [show 6 + 3 * i + 1 = 7 + 3 * i by omega]
  show dz_V κ 1 6 (b + (7 + 3 * i)) (ct_s b (7 + 3 * i)) (ct_r b α) I 9 [(0, .ref (b + (5 + 3 * i)))] [.ref (b + (6 + 3 * i)), .ref (b + (5 + 3 * i))]
  refine dz_putrF x.1 (ct_ty (b := b) (by omega) (lk_Rule hi)) fl_Rule_9 fr_Rule_1 hin d_Rule_init_9 ?_
  rw [ct_r_set (lr_Rule_1 b hi)]
  show dz_V κ 1 6 (b + (7 + 3 * i)) (ct_s b (7 + 3 * i)) (ct_r b (ct_a α (b + (5 + 3 * i)) 1)) I 12 [(0, .ref (b + (5 + 3 * i)))] []
  refine dz_aload_n x.1 0 d_Rule_init_12 rfl rfl ?_
  refine dz_iconst x.1 d_Rule_init_13 ?_
  refine ct_newa x.1 rm 0 3 (by decide) (lk_RCells hi) (by decide) al_int (ct_z_a (ct_z_le (q1 := b + (7 + 3 * i)) hZ (by omega)) (by omega)) d_Rule_init_14 (by omega) (by omega) ?_
  rw [show 7 + 3 * i + 1 = 8 + 3 * i by omega]
  show dz_V κ 2 9 (b + (8 + 3 * i)) (ct_s b (8 + 3 * i)) (ct_r b (ct_a α (b + (5 + 3 * i)) 1)) I 16 [(0, .ref (b + (5 + 3 * i)))] [.ref (b + (7 + 3 * i)), .ref (b + (5 + 3 * i))]
  refine dz_putrF x.1 (ct_ty (b := b) (by omega) (lk_Rule hi)) fl_Rule_15 fr_Rule_3 hin d_Rule_init_16 ?_
  rw [ct_r_set (lr_Rule_3 b hi)]
  show dz_V κ 2 9 (b + (8 + 3 * i)) (ct_s b (8 + 3 * i)) (ct_r b (ct_a (ct_a α (b + (5 + 3 * i)) 1) (b + (5 + 3 * i)) 3)) I 19 [(0, .ref (b + (5 + 3 * i)))] []
  exact dz_vret x.1 rt d_Rule_init_19 ⟨rfl, rfl, rfl, rfl, rfl⟩
set_option maxRecDepth 100000 in
set_option maxHeartbeats 4000000 in
theorem c_Block_init (l : Launch) (D : va_G) (Dt : Nat → ClassId) (b : Nat) (α : Nat → Int → Bool) (I : dz_Hp) (i : Nat) (hi : i < 12) (hZ : ct_z α I (b + (83 + 4 * i))) : ct_M l D Dt b y_Block_init b_Block_init 1 2 3 600 [.ref (b + (82 + 4 * i))] (83 + 4 * i) α I (86 + 4 * i) (ct_a (ct_a (ct_a α (b + (82 + 4 * i)) 1) (b + (82 + 4 * i)) 3) (b + (82 + 4 * i)) 5) I := by
  refine dz_enter R_Block (by decide) rfl (Nat.le_of_ble_eq_true rfl) (ly_cat _ 0 rfl) (fun κ am hDd rt rm hin => ?_)
  have x : dz_Am κ b_Block_init R_Block ∧ True := ⟨am, trivial⟩
  have hN : dz_n κ = 1 := by obtain ⟨p, l', e, R, s, m, args, below, meth, c, Q, D', Dt', A, nL'⟩ := κ; exact hDd.2.2.2
  show dz_V κ 0 0 (b + (83 + 4 * i)) (ct_s b (83 + 4 * i)) (ct_r b α) I 0 [(0, .ref (b + (82 + 4 * i)))] []
  refine dz_aload_n x.1 0 d_Block_init_0 rfl rfl ?_
  refine dz_objI x.1 rm (by decide) oi_Block (Nat.le_of_ble_eq_true rfl) d_Block_init_1 ?_
  refine dz_aload_n x.1 0 d_Block_init_4 rfl rfl ?_
  refine dz_sipush x.1 d_Block_init_5 (by decide) ?_
  refine ct_newa x.1 rm 0 200 (by decide) (lk_BCells hi) (by decide) al_int hZ d_Block_init_8 (by omega) (by omega) ?_
  rw [show 83 + 4 * i + 1 = 84 + 4 * i by omega]
  show dz_V κ 1 200 (b + (84 + 4 * i)) (ct_s b (84 + 4 * i)) (ct_r b α) I 10 [(0, .ref (b + (82 + 4 * i)))] [.ref (b + (83 + 4 * i)), .ref (b + (82 + 4 * i))]
  refine dz_putrF x.1 (ct_ty (b := b) (by omega) (lk_Block hi)) fl_Block_9 fr_Block_1 hin d_Block_init_10 ?_
  rw [ct_r_set (lr_Block_1 b hi)]
  show dz_V κ 1 200 (b + (84 + 4 * i)) (ct_s b (84 + 4 * i)) (ct_r b (ct_a α (b + (82 + 4 * i)) 1)) I 13 [(0, .ref (b + (82 + 4 * i)))] []
  refine dz_aload_n x.1 0 d_Block_init_13 rfl rfl ?_
  refine dz_sipush x.1 d_Block_init_14 (by decide) ?_
  refine ct_newa x.1 rm 0 200 (by decide) (lk_Laid hi) (by decide) al_int (ct_z_a (ct_z_le (q1 := b + (84 + 4 * i)) hZ (by omega)) (by omega)) d_Block_init_17 (by omega) (by omega) ?_
  rw [show 84 + 4 * i + 1 = 85 + 4 * i by omega]
  show dz_V κ 2 400 (b + (85 + 4 * i)) (ct_s b (85 + 4 * i)) (ct_r b (ct_a α (b + (82 + 4 * i)) 1)) I 19 [(0, .ref (b + (82 + 4 * i)))] [.ref (b + (84 + 4 * i)), .ref (b + (82 + 4 * i))]
  refine dz_putrF x.1 (ct_ty (b := b) (by omega) (lk_Block hi)) fl_Block_15 fr_Block_3 hin d_Block_init_19 ?_
  rw [ct_r_set (lr_Block_3 b hi)]
  show dz_V κ 2 400 (b + (85 + 4 * i)) (ct_s b (85 + 4 * i)) (ct_r b (ct_a (ct_a α (b + (82 + 4 * i)) 1) (b + (82 + 4 * i)) 3)) I 22 [(0, .ref (b + (82 + 4 * i)))] []
  refine dz_aload_n x.1 0 d_Block_init_22 rfl rfl ?_
  refine dz_sipush x.1 d_Block_init_23 (by decide) ?_
  refine ct_newa x.1 rm 0 200 (by decide) (lk_LineBegins hi) (by decide) al_int (ct_z_a (ct_z_le (q1 := b + (85 + 4 * i)) (ct_z_a (ct_z_le (q1 := b + (84 + 4 * i)) hZ (by omega)) (by omega)) (by omega)) (by omega)) d_Block_init_26 (by omega) (by omega) ?_
  rw [show 85 + 4 * i + 1 = 86 + 4 * i by omega]
  show dz_V κ 3 600 (b + (86 + 4 * i)) (ct_s b (86 + 4 * i)) (ct_r b (ct_a (ct_a α (b + (82 + 4 * i)) 1) (b + (82 + 4 * i)) 3)) I 28 [(0, .ref (b + (82 + 4 * i)))] [.ref (b + (85 + 4 * i)), .ref (b + (82 + 4 * i))]
  refine dz_putrF x.1 (ct_ty (b := b) (by omega) (lk_Block hi)) fl_Block_18 fr_Block_5 hin d_Block_init_28 ?_
  rw [ct_r_set (lr_Block_5 b hi)]
  show dz_V κ 3 600 (b + (86 + 4 * i)) (ct_s b (86 + 4 * i)) (ct_r b (ct_a (ct_a (ct_a α (b + (82 + 4 * i)) 1) (b + (82 + 4 * i)) 3) (b + (82 + 4 * i)) 5)) I 31 [(0, .ref (b + (82 + 4 * i)))] []
  exact dz_vret x.1 rt d_Block_init_31 ⟨rfl, rfl, rfl, rfl, rfl⟩
set_option maxRecDepth 100000 in
set_option maxHeartbeats 4000000 in
theorem c_Translator_init (l : Launch) (D : va_G) (Dt : Nat → ClassId) (b : Nat) (α : Nat → Int → Bool) (I : dz_Hp)  (hZ : ct_z α I (b + 78)) : ct_M l D Dt b y_Translator_init b_Translator_init 3 2 0 0 [.ref (b + 77), .ref (b + 1), .ref (b + 3)] 78 α I 78 (ct_a (ct_a α (b + 77) 0) (b + 77) 1) I := by
  refine dz_enter R_Translator (by decide) rfl (Nat.le_of_ble_eq_true rfl) (ly_cat _ 0 rfl) (fun κ am hDd rt rm hin => ?_)
  have x : dz_Am κ b_Translator_init R_Translator ∧ True := ⟨am, trivial⟩
  have hN : dz_n κ = 3 := by obtain ⟨p, l', e, R, s, m, args, below, meth, c, Q, D', Dt', A, nL'⟩ := κ; exact hDd.2.2.2
  show dz_V κ 0 0 (b + 78) (ct_s b 78) (ct_r b α) I 0 [(0, .ref (b + 77)), (1, .ref (b + 1)), (2, .ref (b + 3))] []
  refine dz_aload_n x.1 0 d_Translator_init_0 rfl rfl ?_
  refine dz_objI x.1 rm (by decide) oi_Translator (Nat.le_of_ble_eq_true rfl) d_Translator_init_1 ?_
  refine dz_aload_n x.1 0 d_Translator_init_4 rfl rfl ?_
  refine dz_aload_n x.1 1 d_Translator_init_5 rfl rfl ?_
  refine dz_putrF x.1 (ct_ty (b := b) (by omega) rfl) fl_Translator_9 fr_Translator_0 hin d_Translator_init_6 ?_
  rw [ct_r_set (lr_Translator_0 b)]
  show dz_V κ 0 0 (b + 78) (ct_s b 78) (ct_r b (ct_a α (b + 77) 0)) I 9 [(0, .ref (b + 77)), (1, .ref (b + 1)), (2, .ref (b + 3))] []
  refine dz_aload_n x.1 0 d_Translator_init_9 rfl rfl ?_
  refine dz_aload_n x.1 2 d_Translator_init_10 rfl rfl ?_
  refine dz_putrF x.1 (ct_ty (b := b) (by omega) rfl) fl_Translator_15 fr_Translator_1 hin d_Translator_init_11 ?_
  rw [ct_r_set (lr_Translator_1 b)]
  show dz_V κ 0 0 (b + 78) (ct_s b 78) (ct_r b (ct_a (ct_a α (b + 77) 0) (b + 77) 1)) I 14 [(0, .ref (b + 77)), (1, .ref (b + 1)), (2, .ref (b + 3))] []
  exact dz_vret x.1 rt d_Translator_init_14 ⟨rfl, rfl, rfl, rfl, rfl⟩
set_option maxRecDepth 100000 in
set_option maxHeartbeats 4000000 in
theorem c_Reader_init (l : Launch) (D : va_G) (Dt : Nat → ClassId) (b : Nat) (α : Nat → Int → Bool) (I : dz_Hp)  (hZ : ct_z α I (b + 79)) : ct_M l D Dt b y_Reader_init b_Reader_init 2 2 1 1200 [.ref (b + 78), .ref (b + 3)] 79 α I 80 (ct_a (ct_a α (b + 78) 1) (b + 78) 0) I := by
  refine dz_enter R_Reader (by decide) rfl (Nat.le_of_ble_eq_true rfl) (ly_cat _ 0 rfl) (fun κ am hDd rt rm hin => ?_)
  have x : dz_Am κ b_Reader_init R_Reader ∧ True := ⟨am, trivial⟩
  have hN : dz_n κ = 2 := by obtain ⟨p, l', e, R, s, m, args, below, meth, c, Q, D', Dt', A, nL'⟩ := κ; exact hDd.2.2.2
  show dz_V κ 0 0 (b + 79) (ct_s b 79) (ct_r b α) I 0 [(0, .ref (b + 78)), (1, .ref (b + 3))] []
  refine dz_aload_n x.1 0 d_Reader_init_0 rfl rfl ?_
  refine dz_objI x.1 rm (by decide) oi_Reader (Nat.le_of_ble_eq_true rfl) d_Reader_init_1 ?_
  refine dz_aload_n x.1 0 d_Reader_init_4 rfl rfl ?_
  refine dz_sipush x.1 d_Reader_init_5 (by decide) ?_
  refine ct_newa x.1 rm 1 1200 (by decide) rfl (by decide) al_char hZ d_Reader_init_8 (by omega) (by omega) ?_
  show dz_V κ 1 1200 (b + 80) (ct_s b 80) (ct_r b α) I 10 [(0, .ref (b + 78)), (1, .ref (b + 3))] [.ref (b + 79), .ref (b + 78)]
  refine dz_putrF x.1 (ct_ty (b := b) (by omega) rfl) fl_Reader_9 fr_Reader_1 hin d_Reader_init_10 ?_
  rw [ct_r_set (lr_Reader_1 b)]
  show dz_V κ 1 1200 (b + 80) (ct_s b 80) (ct_r b (ct_a α (b + 78) 1)) I 13 [(0, .ref (b + 78)), (1, .ref (b + 3))] []
  refine dz_aload_n x.1 0 d_Reader_init_13 rfl rfl ?_
  refine dz_aload_n x.1 1 d_Reader_init_14 rfl rfl ?_
  refine dz_putrF x.1 (ct_ty (b := b) (by omega) rfl) fl_Reader_15 fr_Reader_0 hin d_Reader_init_15 ?_
  rw [ct_r_set (lr_Reader_0 b)]
  show dz_V κ 1 1200 (b + 80) (ct_s b 80) (ct_r b (ct_a (ct_a α (b + 78) 1) (b + 78) 0)) I 18 [(0, .ref (b + 78)), (1, .ref (b + 3))] []
  exact dz_vret x.1 rt d_Reader_init_18 ⟨rfl, rfl, rfl, rfl, rfl⟩
/-- the end of a constructor with a loop -/
def ct_Po (b : Nat) (α : Nat → Int → Bool) (k' : Nat) (I' : dz_Hp) (P : (Nat → Int → Bool) → Prop) : dz_Po := fun v sz' sk' rf' I9 => v = none ∧ sz' = b + k' ∧ sk' = ct_s b k' ∧ I9 = I' ∧ ∃ α' : Nat → Int → Bool, rf' = ct_r b α' ∧ (∀ q j, α q j = true → α' q j = true) ∧ P α' ∧ ct_z α' I' (b + k')
theorem ct_up {α : Nat → Int → Bool} {q q' : Nat} {k k' : Int} (h : α q' k' = true) : ct_a α q k q' k' = true := by unfold ct_a; rw [h]; rfl
def ct_PR (b n : Nat) (β : Nat → Int → Bool) : Prop := β (b + 3) 0 = true ∧ ∀ r : Nat, r < n → β (b + 4) (r : Int) = true ∧ β (b + (5 + 3 * r)) 1 = true ∧ β (b + (5 + 3 * r)) 3 = true
def ct_PB (b n : Nat) (β : Nat → Int → Bool) : Prop := β (b + 80) 3 = true ∧ ∀ r : Nat, r < n → β (b + 81) (r : Int) = true ∧ β (b + (82 + 4 * r)) 1 = true ∧ β (b + (82 + 4 * r)) 3 = true ∧ β (b + (82 + 4 * r)) 5 = true
def sp_clamp (lo hi w : Int) : Int := if w < lo then lo else if hi < w then hi else w
theorem sp_clamp_w (w : Int) : 10 ≤ sp_clamp 10 40 w ∧ sp_clamp 10 40 w ≤ 40 := by unfold sp_clamp; (repeat' split) <;> omega
theorem sp_clamp_h (w : Int) : 4 ≤ sp_clamp 4 20 w ∧ sp_clamp 4 20 w ≤ 20 := by unfold sp_clamp; (repeat' split) <;> omega
set_option maxRecDepth 100000 in
set_option maxHeartbeats 4000000 in
theorem c_RuleList_init (l : Launch) (D : va_G) (Dt : Nat → ClassId) (b : Nat) (α : Nat → Int → Bool) (I : dz_Hp)  (hZ : ct_z α I (b + 4)) : dz_C l D Dt y_RuleList_init b_RuleList_init 2 none 3 73 360 [.ref (b + 3)] (b + 4) (ct_s b 4) (ct_r b α) I (ct_Po b α 77 (dz_up I (b + 3) 2 (-1)) (ct_PR b 24)) := by
  refine dz_enter R_RuleList (by decide) rfl (Nat.le_of_ble_eq_true rfl) (ly_cat _ 0 rfl) (fun κ am hDd rt rm hin => ?_)
  have x : dz_Am κ b_RuleList_init R_RuleList ∧ True := ⟨am, trivial⟩
  have hN : dz_n κ = 2 := by obtain ⟨p, l', e, R, s, m, args, below, meth, c, Q, D', Dt', A, nL'⟩ := κ; exact hDd.2.2.2
  have loop : ∀ (k i : Nat) (β : Nat → Int → Bool), i + k = 24 → (∀ q j, α q j = true → β q j = true) → ct_PR b i β → ct_z β (dz_up I (b + 3) 2 (-1)) (b + (5 + 3 * i)) → dz_V κ (1 + 3 * i) (24 + 14 * i) (b + (5 + 3 * i)) (ct_s b (5 + 3 * i)) (ct_r b β) (dz_up I (b + 3) 2 (-1)) 20 [(0, .ref (b + 3)), (1, .int (dz_i (i : Int)))] [] := by
    intro k
    induction k with
    | zero =>
      intro i β hi0 hm hP hz
      obtain rfl : i = 24 := by omega
      show dz_V κ 73 360 (b + 77) (ct_s b 77) (ct_r b β) (dz_up I (b + 3) 2 (-1)) 20 [(0, .ref (b + 3)), (1, .int (dz_i 24))] []
      refine dz_iload_n x.1 1 d_RuleList_init_20 rfl rfl ?_
      refine dz_aload_n x.1 0 d_RuleList_init_21 rfl rfl ?_
      refine dz_getr x.1 (ct_ty (b := b) (by omega) rfl) fl_RuleList_11 ((ct_r_get (hP.1)).trans (lr_RuleList_0 b)) d_RuleList_init_22 ?_
      refine dz_alen x.1 (ct_ty (b := b) (by omega) rfl) (by decide) d_RuleList_init_25 ?_
      show dz_V κ 73 360 (b + 77) (ct_s b 77) (ct_r b β) (dz_up I (b + 3) 2 (-1)) 26 [(0, .ref (b + 3)), (1, .int (dz_i 24))] [.int (dz_i 24), .int (dz_i 24)]
      refine dz_icmp_ge (tgt := 48) x.1 d_RuleList_init_26 (by decide) (by omega) (by omega) (fun hc1 => ?_) (fun hc1 => by exfalso; omega)
      exact dz_vret x.1 rt d_RuleList_init_48 ⟨rfl, rfl, rfl, rfl, β, rfl, hm, hP, hz⟩
    | succ k ih =>
      intro i β hi0 hm hP hz
      have hi : i < 24 := by omega
      refine dz_iload_n x.1 1 d_RuleList_init_20 rfl rfl ?_
      refine dz_aload_n x.1 0 d_RuleList_init_21 rfl rfl ?_
      refine dz_getr x.1 (ct_ty (b := b) (by omega) rfl) fl_RuleList_11 ((ct_r_get (hP.1)).trans (lr_RuleList_0 b)) d_RuleList_init_22 ?_
      refine dz_alen x.1 (ct_ty (b := b) (by omega) rfl) (by decide) d_RuleList_init_25 ?_
      show dz_V κ (1 + 3 * i) (24 + 14 * i) (b + (5 + 3 * i)) (ct_s b (5 + 3 * i)) (ct_r b β) (dz_up I (b + 3) 2 (-1)) 26 [(0, .ref (b + 3)), (1, .int (dz_i (i : Int)))] [.int (dz_i 24), .int (dz_i (i : Int))]
      refine dz_icmp_ge (tgt := 48) x.1 d_RuleList_init_26 (by decide) (by omega) (by omega) (fun hc1 => by exfalso; omega) (fun hc1 => ?_)
      refine dz_aload_n x.1 0 d_RuleList_init_29 rfl rfl ?_
      refine dz_getr x.1 (ct_ty (b := b) (by omega) rfl) fl_RuleList_11 ((ct_r_get (hP.1)).trans (lr_RuleList_0 b)) d_RuleList_init_30 ?_
      refine dz_iload_n x.1 1 d_RuleList_init_33 rfl rfl ?_
      refine ct_new x.1 rm nl_RuleList_9 (lk_Rule hi) hz d_RuleList_init_34 (by omega) (by omega) ?_
      rw [show 5 + 3 * i + 1 = 6 + 3 * i by omega]
      refine dz_widen (k := (2 + 3 * i)) (n := (29 + 14 * i)) (by omega) (by omega) ?_
      show dz_V κ (2 + 3 * i) (29 + 14 * i) (b + (6 + 3 * i)) (ct_s b (6 + 3 * i)) (ct_r b β) (dz_up I (b + 3) 2 (-1)) 37 [(0, .ref (b + 3)), (1, .int (dz_i (i : Int)))] [.ref (b + (5 + 3 * i)), .int (dz_i (i : Int)), .ref (b + 4)]
      refine dz_dup x.1 d_RuleList_init_37 rfl ?_
      refine dz_callI (rest := [.ref (b + (5 + 3 * i)), .int (dz_i (i : Int)), .ref (b + 4)]) x.1 hDd rm cl_RuleList_21 (c_Rule_init l D Dt b β (dz_up I (b + 3) 2 (-1)) i hi (ct_z_le (q1 := b + (6 + 3 * i)) hz (by omega))) (by decide) (by omega) (by omega) rfl rfl (Nat.le_of_ble_eq_true rfl) d_RuleList_init_38 (fun v sz' sk' rf' I' hp2 => ?_)
      obtain ⟨rfl, rfl, rfl, rfl, hp2⟩ := hp2
      have hp2 := hp2.symm
      subst hp2
      refine dz_widen (k := (4 + 3 * i)) (n := (38 + 14 * i)) (by omega) (by omega) ?_
      show dz_V κ (4 + 3 * i) (38 + 14 * i) (b + (8 + 3 * i)) (ct_s b (8 + 3 * i)) (ct_r b (ct_a (ct_a β (b + (5 + 3 * i)) 1) (b + (5 + 3 * i)) 3)) (dz_up I (b + 3) 2 (-1)) 41 [(0, .ref (b + 3)), (1, .int (dz_i (i : Int)))] [.ref (b + (5 + 3 * i)), .int (dz_i (i : Int)), .ref (b + 4)]
      have hz9 : ct_z (ct_a (ct_a β (b + (5 + 3 * i)) 1) (b + (5 + 3 * i)) 3) (dz_up I (b + 3) 2 (-1)) (b + (8 + 3 * i)) := ct_z_a (ct_z_a (ct_z_le (q1 := b + (8 + 3 * i)) hz (by omega)) (by omega)) (by omega)
      refine dz_aast3 x.1 (ct_ty (b := b) (by omega) rfl) (by decide) (by omega) (ct_ty (b := b) (by omega) (lk_Rule hi)) d_RuleList_init_41 ?_
      rw [ct_r_set (lr_RuleArr b hi)]
      show dz_V κ (4 + 3 * i) (38 + 14 * i) (b + (8 + 3 * i)) (ct_s b (8 + 3 * i)) (ct_r b (ct_a (ct_a (ct_a β (b + (5 + 3 * i)) 1) (b + (5 + 3 * i)) 3) (b + 4) (i : Int))) (dz_up I (b + 3) 2 (-1)) 42 [(0, .ref (b + 3)), (1, .int (dz_i (i : Int)))] []
      refine dz_iinc (z := (i : Int) + 1) (ls' := [(0, .ref (b + 3)), (1, .int (dz_i ((i : Int) + 1)))]) x.1 1 d_RuleList_init_42 rfl hN (by decide) (by omega) rfl ?_
      refine dz_goto (tgt := 20) x.1 d_RuleList_init_45 (by decide) ?_
      have h9 := ih (i + 1) (ct_a (ct_a (ct_a β (b + (5 + 3 * i)) 1) (b + (5 + 3 * i)) 3) (b + 4) (i : Int)) (by omega) (fun q j h => ct_up (ct_up (ct_up (hm q j h)))) ⟨ct_up (ct_up (ct_up (hP.1))), fun r hr => ?_⟩ (by rw [show 5 + 3 * (i + 1) = 8 + 3 * i by omega]; exact (ct_z_a hz9 (by omega)))
      · rw [show 5 + 3 * (i + 1) = 8 + 3 * i by omega, show 1 + 3 * (i + 1) = 4 + 3 * i by omega, show 24 + 14 * (i + 1) = 38 + 14 * i by omega, show ((i + 1 : Nat) : Int) = (i : Int) + 1 by omega] at h9
        exact h9
      · by_cases e : r = i
        · subst e; refine ⟨?_, ?_, ?_⟩ <;> (repeat (first | exact ct_a_s | refine ct_up ?_))
        · have h8 := hP.2 r (by omega)
          refine ⟨?_, ?_, ?_⟩ <;> (repeat (refine ct_up ?_))
          · exact h8.1
          · exact h8.2.1
          · exact h8.2.2
  show dz_V κ 0 0 (b + 4) (ct_s b 4) (ct_r b α) I 0 [(0, .ref (b + 3))] []
  refine dz_aload_n x.1 0 d_RuleList_init_0 rfl rfl ?_
  refine dz_objI x.1 rm (by decide) oi_RuleList (Nat.le_of_ble_eq_true rfl) d_RuleList_init_1 ?_
  refine dz_aload_n x.1 0 d_RuleList_init_4 rfl rfl ?_
  refine dz_bipush x.1 d_RuleList_init_5 (by decide) ?_
  refine ct_newq x.1 rm 0 24 _ rfl rfl (by decide) ql_RuleList_9 hZ d_RuleList_init_7 (by omega) (by omega) ?_
  show dz_V κ 1 24 (b + 5) (ct_s b 5) (ct_r b α) I 10 [(0, .ref (b + 3))] [.ref (b + 4), .ref (b + 3)]
  refine dz_putrF x.1 (ct_ty (b := b) (by omega) rfl) fl_RuleList_11 fr_RuleList_0 hin d_RuleList_init_10 ?_
  rw [ct_r_set (lr_RuleList_0 b)]
  show dz_V κ 1 24 (b + 5) (ct_s b 5) (ct_r b (ct_a α (b + 3) 0)) I 13 [(0, .ref (b + 3))] []
  refine dz_aload_n x.1 0 d_RuleList_init_13 rfl rfl ?_
  refine dz_iconst x.1 d_RuleList_init_14 ?_
  refine dz_puti x.1 (ct_ty (b := b) (by omega) rfl) fl_RuleList_17 fp_RuleList_2 d_RuleList_init_15 ?_
  refine dz_iconst x.1 d_RuleList_init_18 ?_
  refine dz_istore_n (ls' := [(0, .ref (b + 3)), (1, .int (dz_i 0))]) x.1 d_RuleList_init_19 rfl hN (by decide) rfl ?_
  exact loop 24 0 (ct_a α (b + 3) 0) (by omega) (fun q j h => ct_up (h)) ⟨ct_a_s, fun r hr => by omega⟩ (ct_z_up (ct_z_a (ct_z_s hZ) (by omega)) (by omega))
set_option maxRecDepth 100000 in
set_option maxHeartbeats 4000000 in
theorem c_Book_init (l : Launch) (D : va_G) (Dt : Nat → ClassId) (b : Nat) (α : Nat → Int → Bool) (I : dz_Hp) (w h : Int) (hh : 0 ≤ h ∧ h < 100) (hZ : ct_z α I (b + 81)) : dz_C l D Dt y_Book_init b_Book_init 4 none 3 49 7320 [.ref (b + 80), .int (dz_i w), .int (dz_i h)] (b + 81) (ct_s b 81) (ct_r b α) I (ct_Po b α 130 (dz_up (dz_up (dz_up (dz_up (dz_up I (b + 80) 5 1) (b + 80) 7 1) (b + 80) 0 w) (b + 80) 1 h) (b + 80) 2 (h - 1)) (ct_PB b 12)) := by
  refine dz_enter R_Book (by decide) rfl (Nat.le_of_ble_eq_true rfl) (ly_cat _ 0 rfl) (fun κ am hDd rt rm hin => ?_)
  have x : dz_Am κ b_Book_init R_Book ∧ True := ⟨am, trivial⟩
  have hN : dz_n κ = 4 := by obtain ⟨p, l', e, R, s, m, args, below, meth, c, Q, D', Dt', A, nL'⟩ := κ; exact hDd.2.2.2
  have loop : ∀ (k i : Nat) (β : Nat → Int → Bool), i + k = 12 → (∀ q j, α q j = true → β q j = true) → ct_PB b i β → ct_z β (dz_up (dz_up (dz_up (dz_up (dz_up I (b + 80) 5 1) (b + 80) 7 1) (b + 80) 0 w) (b + 80) 1 h) (b + 80) 2 (h - 1)) (b + (82 + 4 * i)) → dz_V κ (1 + 4 * i) (12 + 609 * i) (b + (82 + 4 * i)) (ct_s b (82 + 4 * i)) (ct_r b β) (dz_up (dz_up (dz_up (dz_up (dz_up I (b + 80) 5 1) (b + 80) 7 1) (b + 80) 0 w) (b + 80) 1 h) (b + 80) 2 (h - 1)) 42 [(0, .ref (b + 80)), (1, .int (dz_i w)), (2, .int (dz_i h)), (3, .int (dz_i (i : Int)))] [] := by
    intro k
    induction k with
    | zero =>
      intro i β hi0 hm hP hz
      obtain rfl : i = 12 := by omega
      show dz_V κ 49 7320 (b + 130) (ct_s b 130) (ct_r b β) (dz_up (dz_up (dz_up (dz_up (dz_up I (b + 80) 5 1) (b + 80) 7 1) (b + 80) 0 w) (b + 80) 1 h) (b + 80) 2 (h - 1)) 42 [(0, .ref (b + 80)), (1, .int (dz_i w)), (2, .int (dz_i h)), (3, .int (dz_i 12))] []
      refine dz_iload_n x.1 3 d_Book_init_42 rfl rfl ?_
      refine dz_aload_n x.1 0 d_Book_init_43 rfl rfl ?_
      refine dz_getr x.1 (ct_ty (b := b) (by omega) rfl) fl_Book_11 ((ct_r_get (hP.1)).trans (lr_Book_3 b)) d_Book_init_44 ?_
      refine dz_alen x.1 (ct_ty (b := b) (by omega) rfl) (by decide) d_Book_init_47 ?_
      show dz_V κ 49 7320 (b + 130) (ct_s b 130) (ct_r b β) (dz_up (dz_up (dz_up (dz_up (dz_up I (b + 80) 5 1) (b + 80) 7 1) (b + 80) 0 w) (b + 80) 1 h) (b + 80) 2 (h - 1)) 48 [(0, .ref (b + 80)), (1, .int (dz_i w)), (2, .int (dz_i h)), (3, .int (dz_i 12))] [.int (dz_i 12), .int (dz_i 12)]
      refine dz_icmp_ge (tgt := 70) x.1 d_Book_init_48 (by decide) (by omega) (by omega) (fun hc1 => ?_) (fun hc1 => by exfalso; omega)
      exact dz_vret x.1 rt d_Book_init_70 ⟨rfl, rfl, rfl, rfl, β, rfl, hm, hP, hz⟩
    | succ k ih =>
      intro i β hi0 hm hP hz
      have hi : i < 12 := by omega
      refine dz_iload_n x.1 3 d_Book_init_42 rfl rfl ?_
      refine dz_aload_n x.1 0 d_Book_init_43 rfl rfl ?_
      refine dz_getr x.1 (ct_ty (b := b) (by omega) rfl) fl_Book_11 ((ct_r_get (hP.1)).trans (lr_Book_3 b)) d_Book_init_44 ?_
      refine dz_alen x.1 (ct_ty (b := b) (by omega) rfl) (by decide) d_Book_init_47 ?_
      show dz_V κ (1 + 4 * i) (12 + 609 * i) (b + (82 + 4 * i)) (ct_s b (82 + 4 * i)) (ct_r b β) (dz_up (dz_up (dz_up (dz_up (dz_up I (b + 80) 5 1) (b + 80) 7 1) (b + 80) 0 w) (b + 80) 1 h) (b + 80) 2 (h - 1)) 48 [(0, .ref (b + 80)), (1, .int (dz_i w)), (2, .int (dz_i h)), (3, .int (dz_i (i : Int)))] [.int (dz_i 12), .int (dz_i (i : Int))]
      refine dz_icmp_ge (tgt := 70) x.1 d_Book_init_48 (by decide) (by omega) (by omega) (fun hc1 => by exfalso; omega) (fun hc1 => ?_)
      refine dz_aload_n x.1 0 d_Book_init_51 rfl rfl ?_
      refine dz_getr x.1 (ct_ty (b := b) (by omega) rfl) fl_Book_11 ((ct_r_get (hP.1)).trans (lr_Book_3 b)) d_Book_init_52 ?_
      refine dz_iload_n x.1 3 d_Book_init_55 rfl rfl ?_
      refine ct_new x.1 rm nl_Book_9 (lk_Block hi) hz d_Book_init_56 (by omega) (by omega) ?_
      rw [show 82 + 4 * i + 1 = 83 + 4 * i by omega]
      refine dz_widen (k := (2 + 4 * i)) (n := (21 + 609 * i)) (by omega) (by omega) ?_
      show dz_V κ (2 + 4 * i) (21 + 609 * i) (b + (83 + 4 * i)) (ct_s b (83 + 4 * i)) (ct_r b β) (dz_up (dz_up (dz_up (dz_up (dz_up I (b + 80) 5 1) (b + 80) 7 1) (b + 80) 0 w) (b + 80) 1 h) (b + 80) 2 (h - 1)) 59 [(0, .ref (b + 80)), (1, .int (dz_i w)), (2, .int (dz_i h)), (3, .int (dz_i (i : Int)))] [.ref (b + (82 + 4 * i)), .int (dz_i (i : Int)), .ref (b + 81)]
      refine dz_dup x.1 d_Book_init_59 rfl ?_
      refine dz_callI (rest := [.ref (b + (82 + 4 * i)), .int (dz_i (i : Int)), .ref (b + 81)]) x.1 hDd rm cl_Book_33 (c_Block_init l D Dt b β (dz_up (dz_up (dz_up (dz_up (dz_up I (b + 80) 5 1) (b + 80) 7 1) (b + 80) 0 w) (b + 80) 1 h) (b + 80) 2 (h - 1)) i hi (ct_z_le (q1 := b + (83 + 4 * i)) hz (by omega))) (by decide) (by omega) (by omega) rfl rfl (Nat.le_of_ble_eq_true rfl) d_Book_init_60 (fun v sz' sk' rf' I' hp2 => ?_)
      obtain ⟨rfl, rfl, rfl, rfl, hp2⟩ := hp2
      have hp2 := hp2.symm
      subst hp2
      refine dz_widen (k := (5 + 4 * i)) (n := (621 + 609 * i)) (by omega) (by omega) ?_
      show dz_V κ (5 + 4 * i) (621 + 609 * i) (b + (86 + 4 * i)) (ct_s b (86 + 4 * i)) (ct_r b (ct_a (ct_a (ct_a β (b + (82 + 4 * i)) 1) (b + (82 + 4 * i)) 3) (b + (82 + 4 * i)) 5)) (dz_up (dz_up (dz_up (dz_up (dz_up I (b + 80) 5 1) (b + 80) 7 1) (b + 80) 0 w) (b + 80) 1 h) (b + 80) 2 (h - 1)) 63 [(0, .ref (b + 80)), (1, .int (dz_i w)), (2, .int (dz_i h)), (3, .int (dz_i (i : Int)))] [.ref (b + (82 + 4 * i)), .int (dz_i (i : Int)), .ref (b + 81)]
      have hz9 : ct_z (ct_a (ct_a (ct_a β (b + (82 + 4 * i)) 1) (b + (82 + 4 * i)) 3) (b + (82 + 4 * i)) 5) (dz_up (dz_up (dz_up (dz_up (dz_up I (b + 80) 5 1) (b + 80) 7 1) (b + 80) 0 w) (b + 80) 1 h) (b + 80) 2 (h - 1)) (b + (86 + 4 * i)) := ct_z_a (ct_z_a (ct_z_a (ct_z_le (q1 := b + (86 + 4 * i)) hz (by omega)) (by omega)) (by omega)) (by omega)
      refine dz_aast4 x.1 (ct_ty (b := b) (by omega) rfl) (by decide) (by omega) (ct_ty (b := b) (by omega) (lk_Block hi)) d_Book_init_63 ?_
      rw [ct_r_set (lr_BlockArr b hi)]
      show dz_V κ (5 + 4 * i) (621 + 609 * i) (b + (86 + 4 * i)) (ct_s b (86 + 4 * i)) (ct_r b (ct_a (ct_a (ct_a (ct_a β (b + (82 + 4 * i)) 1) (b + (82 + 4 * i)) 3) (b + (82 + 4 * i)) 5) (b + 81) (i : Int))) (dz_up (dz_up (dz_up (dz_up (dz_up I (b + 80) 5 1) (b + 80) 7 1) (b + 80) 0 w) (b + 80) 1 h) (b + 80) 2 (h - 1)) 64 [(0, .ref (b + 80)), (1, .int (dz_i w)), (2, .int (dz_i h)), (3, .int (dz_i (i : Int)))] []
      refine dz_iinc (z := (i : Int) + 1) (ls' := [(0, .ref (b + 80)), (1, .int (dz_i w)), (2, .int (dz_i h)), (3, .int (dz_i ((i : Int) + 1)))]) x.1 3 d_Book_init_64 rfl hN (by decide) (by omega) rfl ?_
      refine dz_goto (tgt := 42) x.1 d_Book_init_67 (by decide) ?_
      have h9 := ih (i + 1) (ct_a (ct_a (ct_a (ct_a β (b + (82 + 4 * i)) 1) (b + (82 + 4 * i)) 3) (b + (82 + 4 * i)) 5) (b + 81) (i : Int)) (by omega) (fun q j h => ct_up (ct_up (ct_up (ct_up (hm q j h))))) ⟨ct_up (ct_up (ct_up (ct_up (hP.1)))), fun r hr => ?_⟩ (by rw [show 82 + 4 * (i + 1) = 86 + 4 * i by omega]; exact (ct_z_a hz9 (by omega)))
      · rw [show 82 + 4 * (i + 1) = 86 + 4 * i by omega, show 1 + 4 * (i + 1) = 5 + 4 * i by omega, show 12 + 609 * (i + 1) = 621 + 609 * i by omega, show ((i + 1 : Nat) : Int) = (i : Int) + 1 by omega] at h9
        exact h9
      · by_cases e : r = i
        · subst e; refine ⟨?_, ?_, ?_, ?_⟩ <;> (repeat (first | exact ct_a_s | refine ct_up ?_))
        · have h8 := hP.2 r (by omega)
          refine ⟨?_, ?_, ?_, ?_⟩ <;> (repeat (refine ct_up ?_))
          · exact h8.1
          · exact h8.2.1
          · exact h8.2.2.1
          · exact h8.2.2.2
  show dz_V κ 0 0 (b + 81) (ct_s b 81) (ct_r b α) I 0 [(0, .ref (b + 80)), (1, .int (dz_i w)), (2, .int (dz_i h))] []
  refine dz_aload_n x.1 0 d_Book_init_0 rfl rfl ?_
  refine dz_objI x.1 rm (by decide) oi_Book (Nat.le_of_ble_eq_true rfl) d_Book_init_1 ?_
  refine dz_aload_n x.1 0 d_Book_init_4 rfl rfl ?_
  refine dz_bipush x.1 d_Book_init_5 (by decide) ?_
  refine ct_newq x.1 rm 1 12 _ rfl rfl (by decide) ql_Book_9 hZ d_Book_init_7 (by omega) (by omega) ?_
  show dz_V κ 1 12 (b + 82) (ct_s b 82) (ct_r b α) I 10 [(0, .ref (b + 80)), (1, .int (dz_i w)), (2, .int (dz_i h))] [.ref (b + 81), .ref (b + 80)]
  refine dz_putrF x.1 (ct_ty (b := b) (by omega) rfl) fl_Book_11 fr_Book_3 hin d_Book_init_10 ?_
  rw [ct_r_set (lr_Book_3 b)]
  show dz_V κ 1 12 (b + 82) (ct_s b 82) (ct_r b (ct_a α (b + 80) 3)) I 13 [(0, .ref (b + 80)), (1, .int (dz_i w)), (2, .int (dz_i h))] []
  refine dz_aload_n x.1 0 d_Book_init_13 rfl rfl ?_
  refine dz_iconst x.1 d_Book_init_14 ?_
  refine dz_puti x.1 (ct_ty (b := b) (by omega) rfl) fl_Book_17 fp_Book_5 d_Book_init_15 ?_
  refine dz_aload_n x.1 0 d_Book_init_18 rfl rfl ?_
  refine dz_iconst x.1 d_Book_init_19 ?_
  refine dz_puti x.1 (ct_ty (b := b) (by omega) rfl) fl_Book_21 fp_Book_7 d_Book_init_20 ?_
  refine dz_aload_n x.1 0 d_Book_init_23 rfl rfl ?_
  refine dz_iload_n x.1 1 d_Book_init_24 rfl rfl ?_
  refine dz_putiF x.1 (ct_ty (b := b) (by omega) rfl) fl_Book_24 fi_Book_0 hin d_Book_init_25 ?_
  refine dz_aload_n x.1 0 d_Book_init_28 rfl rfl ?_
  refine dz_iload_n x.1 2 d_Book_init_29 rfl rfl ?_
  refine dz_putiF x.1 (ct_ty (b := b) (by omega) rfl) fl_Book_27 fi_Book_1 hin d_Book_init_30 ?_
  refine dz_aload_n x.1 0 d_Book_init_33 rfl rfl ?_
  refine dz_iload_n x.1 2 d_Book_init_34 rfl rfl ?_
  refine dz_iconst x.1 d_Book_init_35 ?_
  refine dz_isub (z := h - 1) x.1 d_Book_init_36 (by omega) ?_
  refine dz_putiF x.1 (ct_ty (b := b) (by omega) rfl) fl_Book_30 fi_Book_2 hin d_Book_init_37 ?_
  refine dz_iconst x.1 d_Book_init_40 ?_
  refine dz_istore_n (ls' := [(0, .ref (b + 80)), (1, .int (dz_i w)), (2, .int (dz_i h)), (3, .int (dz_i 0))]) x.1 d_Book_init_41 rfl hN (by decide) rfl ?_
  exact loop 12 0 (ct_a α (b + 80) 3) (by omega) (fun q j h => ct_up (h)) ⟨ct_a_s, fun r hr => by omega⟩ (ct_z_up (ct_z_up (ct_z_up (ct_z_up (ct_z_up (ct_z_a (ct_z_s hZ) (by omega)) (by omega)) (by omega)) (by omega)) (by omega)) (by omega))
