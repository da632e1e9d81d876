theorem ct_ty {b k o : Nat} {x : (Nat × Nat) ⊕ Nat} (h : o < k) (hk : ly_k o = some x) : ct_s b k (b + o) = some x := by rw [ct_s_lt h, hk]
theorem lk_Rule {i : Nat} (h : i < 24) : ly_k (5 + 3 * i) = some (.inr 2) := by have := ly_Rule 0 h; rwa [ly_at] at this
theorem lk_Letters {i : Nat} (h : i < 24) : ly_k (6 + 3 * i) = some (.inl (1, 6)) := by have := ly_Letters 0 h; rwa [ly_at] at this
theorem lk_RCells {i : Nat} (h : i < 24) : ly_k (7 + 3 * i) = some (.inl (0, 3)) := by have := ly_RCells 0 h; rwa [ly_at] at this
theorem lk_Block {i : Nat} (h : i < 12) : ly_k (82 + 4 * i) = some (.inr 6) := by have := ly_Block 0 h; rwa [ly_at] at this
theorem lk_BCells {i : Nat} (h : i < 12) : ly_k (83 + 4 * i) = some (.inl (0, 200)) := by have := ly_BCells 0 h; rwa [ly_at] at this
theorem lk_Laid {i : Nat} (h : i < 12) : ly_k (84 + 4 * i) = some (.inl (0, 200)) := by have := ly_Laid 0 h; rwa [ly_at] at this
theorem lk_LineBegins {i : Nat} (h : i < 12) : ly_k (85 + 4 * i) = some (.inl (0, 200)) := by have := ly_LineBegins 0 h; rwa [ly_at] at this
/-- a constructor's contract -/
def ct_M (l : Launch) (D : va_G) (Dt : Nat → ClassId) (b : Nat) (y : MethodName) (cc : ByteArray) (nL d mc ms : Nat) (av : List Value) (k : Nat) (α : Nat → Int → Bool) (I : dz_Hp) (k' : Nat) (α' : Nat → Int → Bool) (I' : dz_Hp) : Prop :=
  dz_C l D Dt y cc nL none d mc ms av (b + k) (ct_s b k) (ct_r b α) I (fun v sz' sk' rf' I9 => v = none ∧ sz' = b + k' ∧ sk' = ct_s b k' ∧ rf' = ct_r b α' ∧ I9 = I')
set_option maxRecDepth 100000 in
set_option maxHeartbeats 4000000 in
theorem c_Typed_init (l : Launch) (D : va_G) (Dt : Nat → ClassId) (b : Nat) (α : Nat → Int → Bool) (I : dz_Hp)  (hZ : ct_z α I (b + 2)) : ct_M l D Dt b y_Typed_init b_Typed_init 1 2 1 80 [.ref (b + 1)] 2 α I 3 (ct_a α (b + 1) 0) I := by
  refine dz_enter R_Typed (by decide) rfl (Nat.le_of_ble_eq_true rfl) (ly_cat _ 0 rfl) (fun κ am hDd rt rm hin => ?_)
  have x : dz_Am κ b_Typed_init R_Typed ∧ True := ⟨am, trivial⟩
  have hN : dz_n κ = 1 := by obtain ⟨p, l', e, R, s, m, args, below, meth, c, Q, D', Dt', A, nL'⟩ := κ; exact hDd.2.2.2
  show dz_V κ 0 0 (b + 2) (ct_s b 2) (ct_r b α) I 0 [(0, .ref (b + 1))] []
  refine dz_aload_n x.1 0 d_Typed_init_0 rfl rfl ?_
  refine dz_objI x.1 rm (by decide) oi_Typed (Nat.le_of_ble_eq_true rfl) d_Typed_init_1 ?_
  refine dz_aload_n x.1 0 d_Typed_init_4 rfl rfl ?_
  refine dz_bipush x.1 d_Typed_init_5 (by decide) ?_
  refine ct_newa x.1 rm 1 80 (by decide) rfl (by decide) al_char hZ d_Typed_init_7 (by omega) (by omega) ?_
  show dz_V κ 1 80 (b + 3) (ct_s b 3) (ct_r b α) I 9 [(0, .ref (b + 1))] [.ref (b + 2), .ref (b + 1)]
  refine dz_putrF x.1 (ct_ty (b := b) (by omega) rfl) fl_Typed_9 fr_Typed_0 hin d_Typed_init_9 ?_
  rw [ct_r_set (lr_Typed_0 b)]
  show dz_V κ 1 80 (b + 3) (ct_s b 3) (ct_r b (ct_a α (b + 1) 0)) I 12 [(0, .ref (b + 1))] []
  exact dz_vret x.1 rt d_Typed_init_12 ⟨rfl, rfl, rfl, rfl, rfl⟩
set_option maxRecDepth 100000 in
set_option maxHeartbeats 4000000 in
theorem c_Rule_init (l : Launch) (D : va_G) (Dt : Nat → ClassId) (b : Nat) (α : Nat → Int → Bool) (I : dz_Hp) (i : Nat) (hi : i < 24) (hZ : ct_z α I (b + (6 + 3 * i))) : ct_M l D Dt b y_Rule_init b_Rule_init 1 2 2 9 [.ref (b + (5 + 3 * i))] (6 + 3 * i) α I (8 + 3 * i) (ct_a (ct_a α (b + (5 + 3 * i)) 1) (b + (5 + 3 * i)) 3) I := by
  refine dz_enter R_Rule (by decide) rfl (Nat.le_of_ble_eq_true rfl) (ly_cat _ 0 rfl) (fun κ am hDd rt rm hin => ?_)
  have x : dz_Am κ b_Rule_init R_Rule ∧ True := ⟨am, trivial⟩
  have hN : dz_n κ = 1 := by obtain ⟨p, l', e, R, s, m, args, below, meth, c, Q, D', Dt', A, nL'⟩ := κ; exact hDd.2.2.2
  show dz_V κ 0 0 (b + (6 + 3 * i)) (ct_s b (6 + 3 * i)) (ct_r b α) I 0 [(0, .ref (b + (5 + 3 * i)))] []
  refine dz_aload_n x.1 0 d_Rule_init_0 rfl rfl ?_
  refine dz_objI x.1 rm (by decide) oi_Rule (Nat.le_of_ble_eq_true rfl) d_Rule_init_1 ?_
  refine dz_aload_n x.1 0 d_Rule_init_4 rfl rfl ?_
  refine dz_bipush x.1 d_Rule_init_5 (by decide) ?_
  refine ct_newa x.1 rm 1 6 (by decide) (lk_Letters hi) (by decide) al_char hZ d_Rule_init_7 (by omega) (by omega) ?_
  show dz_V κ 1 6 (b + (7 + 3 * i)) (ct_s b (7 + 3 * i)) (ct_r b α) I 9 [(0, .ref (b + (5 + 3 * i)))] [.ref (b + (6 + 3 * i)), .ref (b + (5 + 3 * i))]
  refine dz_putrF x.1 (ct_ty (b := b) (by omega) (lk_Rule hi)) fl_Rule_9 fr_Rule_1 hin d_Rule_init_9 ?_
  rw [ct_r_set (lr_Rule_1 b hi)]
  show dz_V κ 1 6 (b + (7 + 3 * i)) (ct_s b (7 + 3 * i)) (ct_r b (ct_a α (b + (5 + 3 * i)) 1)) I 12 [(0, .ref (b + (5 + 3 * i)))] []
  refine dz_aload_n x.1 0 d_Rule_init_12 rfl rfl ?_
  refine dz_iconst x.1 d_Rule_init_13 ?_
  refine ct_newa x.1 rm 0 3 (by decide) (lk_RCells hi) (by decide) al_int (ct_z_a (ct_z_s hZ) (by omega)) d_Rule_init_14 (by omega) (by omega) ?_
  show dz_V κ 2 9 (b + (8 + 3 * i)) (ct_s b (8 + 3 * i)) (ct_r b (ct_a α (b + (5 + 3 * i)) 1)) I 16 [(0, .ref (b + (5 + 3 * i)))] [.ref (b + (7 + 3 * i)), .ref (b + (5 + 3 * i))]
  refine dz_putrF x.1 (ct_ty (b := b) (by omega) (lk_Rule hi)) fl_Rule_15 fr_Rule_3 hin d_Rule_init_16 ?_
  rw [ct_r_set (lr_Rule_3 b hi)]
  show dz_V κ 2 9 (b + (8 + 3 * i)) (ct_s b (8 + 3 * i)) (ct_r b (ct_a (ct_a α (b + (5 + 3 * i)) 1) (b + (5 + 3 * i)) 3)) I 19 [(0, .ref (b + (5 + 3 * i)))] []
  exact dz_vret x.1 rt d_Rule_init_19 ⟨rfl, rfl, rfl, rfl, rfl⟩
set_option maxRecDepth 100000 in
set_option maxHeartbeats 4000000 in
theorem c_Block_init (l : Launch) (D : va_G) (Dt : Nat → ClassId) (b : Nat) (α : Nat → Int → Bool) (I : dz_Hp) (i : Nat) (hi : i < 12) (hZ : ct_z α I (b + (83 + 4 * i))) : ct_M l D Dt b y_Block_init b_Block_init 1 2 3 600 [.ref (b + (82 + 4 * i))] (83 + 4 * i) α I (86 + 4 * i) (ct_a (ct_a (ct_a α (b + (82 + 4 * i)) 1) (b + (82 + 4 * i)) 3) (b + (82 + 4 * i)) 5) I := by
  refine dz_enter R_Block (by decide) rfl (Nat.le_of_ble_eq_true rfl) (ly_cat _ 0 rfl) (fun κ am hDd rt rm hin => ?_)
  have x : dz_Am κ b_Block_init R_Block ∧ True := ⟨am, trivial⟩
  have hN : dz_n κ = 1 := by obtain ⟨p, l', e, R, s, m, args, below, meth, c, Q, D', Dt', A, nL'⟩ := κ; exact hDd.2.2.2
  show dz_V κ 0 0 (b + (83 + 4 * i)) (ct_s b (83 + 4 * i)) (ct_r b α) I 0 [(0, .ref (b + (82 + 4 * i)))] []
  refine dz_aload_n x.1 0 d_Block_init_0 rfl rfl ?_
  refine dz_objI x.1 rm (by decide) oi_Block (Nat.le_of_ble_eq_true rfl) d_Block_init_1 ?_
  refine dz_aload_n x.1 0 d_Block_init_4 rfl rfl ?_
  refine dz_sipush x.1 d_Block_init_5 (by decide) ?_
  refine ct_newa x.1 rm 0 200 (by decide) (lk_BCells hi) (by decide) al_int hZ d_Block_init_8 (by omega) (by omega) ?_
  show dz_V κ 1 200 (b + (84 + 4 * i)) (ct_s b (84 + 4 * i)) (ct_r b α) I 10 [(0, .ref (b + (82 + 4 * i)))] [.ref (b + (83 + 4 * i)), .ref (b + (82 + 4 * i))]
  refine dz_putrF x.1 (ct_ty (b := b) (by omega) (lk_Block hi)) fl_Block_9 fr_Block_1 hin d_Block_init_10 ?_
  rw [ct_r_set (lr_Block_1 b hi)]
  show dz_V κ 1 200 (b + (84 + 4 * i)) (ct_s b (84 + 4 * i)) (ct_r b (ct_a α (b + (82 + 4 * i)) 1)) I 13 [(0, .ref (b + (82 + 4 * i)))] []
  refine dz_aload_n x.1 0 d_Block_init_13 rfl rfl ?_
  refine dz_sipush x.1 d_Block_init_14 (by decide) ?_
  refine ct_newa x.1 rm 0 200 (by decide) (lk_Laid hi) (by decide) al_int (ct_z_a (ct_z_s hZ) (by omega)) d_Block_init_17 (by omega) (by omega) ?_
  show dz_V κ 2 400 (b + (85 + 4 * i)) (ct_s b (85 + 4 * i)) (ct_r b (ct_a α (b + (82 + 4 * i)) 1)) I 19 [(0, .ref (b + (82 + 4 * i)))] [.ref (b + (84 + 4 * i)), .ref (b + (82 + 4 * i))]
  refine dz_putrF x.1 (ct_ty (b := b) (by omega) (lk_Block hi)) fl_Block_15 fr_Block_3 hin d_Block_init_19 ?_
  rw [ct_r_set (lr_Block_3 b hi)]
  show dz_V κ 2 400 (b + (85 + 4 * i)) (ct_s b (85 + 4 * i)) (ct_r b (ct_a (ct_a α (b + (82 + 4 * i)) 1) (b + (82 + 4 * i)) 3)) I 22 [(0, .ref (b + (82 + 4 * i)))] []
  refine dz_aload_n x.1 0 d_Block_init_22 rfl rfl ?_
  refine dz_sipush x.1 d_Block_init_23 (by decide) ?_
  refine ct_newa x.1 rm 0 200 (by decide) (lk_LineBegins hi) (by decide) al_int (ct_z_a (ct_z_s (ct_z_a (ct_z_s hZ) (by omega))) (by omega)) d_Block_init_26 (by omega) (by omega) ?_
  show dz_V κ 3 600 (b + (86 + 4 * i)) (ct_s b (86 + 4 * i)) (ct_r b (ct_a (ct_a α (b + (82 + 4 * i)) 1) (b + (82 + 4 * i)) 3)) I 28 [(0, .ref (b + (82 + 4 * i)))] [.ref (b + (85 + 4 * i)), .ref (b + (82 + 4 * i))]
  refine dz_putrF x.1 (ct_ty (b := b) (by omega) (lk_Block hi)) fl_Block_18 fr_Block_5 hin d_Block_init_28 ?_
  rw [ct_r_set (lr_Block_5 b hi)]
  show dz_V κ 3 600 (b + (86 + 4 * i)) (ct_s b (86 + 4 * i)) (ct_r b (ct_a (ct_a (ct_a α (b + (82 + 4 * i)) 1) (b + (82 + 4 * i)) 3) (b + (82 + 4 * i)) 5)) I 31 [(0, .ref (b + (82 + 4 * i)))] []
  exact dz_vret x.1 rt d_Block_init_31 ⟨rfl, rfl, rfl, rfl, rfl⟩
set_option maxRecDepth 100000 in
set_option maxHeartbeats 4000000 in
theorem c_Translator_init (l : Launch) (D : va_G) (Dt : Nat → ClassId) (b : Nat) (α : Nat → Int → Bool) (I : dz_Hp)  (hZ : ct_z α I (b + 78)) : ct_M l D Dt b y_Translator_init b_Translator_init 3 2 0 0 [.ref (b + 77), .ref (b + 1), .ref (b + 3)] 78 α I 78 (ct_a (ct_a α (b + 77) 0) (b + 77) 1) I := by
  refine dz_enter R_Translator (by decide) rfl (Nat.le_of_ble_eq_true rfl) (ly_cat _ 0 rfl) (fun κ am hDd rt rm hin => ?_)
  have x : dz_Am κ b_Translator_init R_Translator ∧ True := ⟨am, trivial⟩
  have hN : dz_n κ = 3 := by obtain ⟨p, l', e, R, s, m, args, below, meth, c, Q, D', Dt', A, nL'⟩ := κ; exact hDd.2.2.2
  show dz_V κ 0 0 (b + 78) (ct_s b 78) (ct_r b α) I 0 [(0, .ref (b + 77)), (1, .ref (b + 1)), (2, .ref (b + 3))] []
  refine dz_aload_n x.1 0 d_Translator_init_0 rfl rfl ?_
  refine dz_objI x.1 rm (by decide) oi_Translator (Nat.le_of_ble_eq_true rfl) d_Translator_init_1 ?_
  refine dz_aload_n x.1 0 d_Translator_init_4 rfl rfl ?_
  refine dz_aload_n x.1 1 d_Translator_init_5 rfl rfl ?_
  refine dz_putrF x.1 (ct_ty (b := b) (by omega) rfl) fl_Translator_9 fr_Translator_0 hin d_Translator_init_6 ?_
  rw [ct_r_set (lr_Translator_0 b)]
  show dz_V κ 0 0 (b + 78) (ct_s b 78) (ct_r b (ct_a α (b + 77) 0)) I 9 [(0, .ref (b + 77)), (1, .ref (b + 1)), (2, .ref (b + 3))] []
  refine dz_aload_n x.1 0 d_Translator_init_9 rfl rfl ?_
  refine dz_aload_n x.1 2 d_Translator_init_10 rfl rfl ?_
  refine dz_putrF x.1 (ct_ty (b := b) (by omega) rfl) fl_Translator_15 fr_Translator_1 hin d_Translator_init_11 ?_
  rw [ct_r_set (lr_Translator_1 b)]
  show dz_V κ 0 0 (b + 78) (ct_s b 78) (ct_r b (ct_a (ct_a α (b + 77) 0) (b + 77) 1)) I 14 [(0, .ref (b + 77)), (1, .ref (b + 1)), (2, .ref (b + 3))] []
  exact dz_vret x.1 rt d_Translator_init_14 ⟨rfl, rfl, rfl, rfl, rfl⟩
set_option maxRecDepth 100000 in
set_option maxHeartbeats 4000000 in
theorem c_Reader_init (l : Launch) (D : va_G) (Dt : Nat → ClassId) (b : Nat) (α : Nat → Int → Bool) (I : dz_Hp)  (hZ : ct_z α I (b + 79)) : ct_M l D Dt b y_Reader_init b_Reader_init 2 2 1 1200 [.ref (b + 78), .ref (b + 3)] 79 α I 80 (ct_a (ct_a α (b + 78) 1) (b + 78) 0) I := by
  refine dz_enter R_Reader (by decide) rfl (Nat.le_of_ble_eq_true rfl) (ly_cat _ 0 rfl) (fun κ am hDd rt rm hin => ?_)
  have x : dz_Am κ b_Reader_init R_Reader ∧ True := ⟨am, trivial⟩
  have hN : dz_n κ = 2 := by obtain ⟨p, l', e, R, s, m, args, below, meth, c, Q, D', Dt', A, nL'⟩ := κ; exact hDd.2.2.2
  show dz_V κ 0 0 (b + 79) (ct_s b 79) (ct_r b α) I 0 [(0, .ref (b + 78)), (1, .ref (b + 3))] []
  refine dz_aload_n x.1 0 d_Reader_init_0 rfl rfl ?_
  refine dz_objI x.1 rm (by decide) oi_Reader (Nat.le_of_ble_eq_true rfl) d_Reader_init_1 ?_
  refine dz_aload_n x.1 0 d_Reader_init_4 rfl rfl ?_
  refine dz_sipush x.1 d_Reader_init_5 (by decide) ?_
  refine ct_newa x.1 rm 1 1200 (by decide) rfl (by decide) al_char hZ d_Reader_init_8 (by omega) (by omega) ?_
  show dz_V κ 1 1200 (b + 80) (ct_s b 80) (ct_r b α) I 10 [(0, .ref (b + 78)), (1, .ref (b + 3))] [.ref (b + 79), .ref (b + 78)]
  refine dz_putrF x.1 (ct_ty (b := b) (by omega) rfl) fl_Reader_9 fr_Reader_1 hin d_Reader_init_10 ?_
  rw [ct_r_set (lr_Reader_1 b)]
  show dz_V κ 1 1200 (b + 80) (ct_s b 80) (ct_r b (ct_a α (b + 78) 1)) I 13 [(0, .ref (b + 78)), (1, .ref (b + 3))] []
  refine dz_aload_n x.1 0 d_Reader_init_13 rfl rfl ?_
  refine dz_aload_n x.1 1 d_Reader_init_14 rfl rfl ?_
  refine dz_putrF x.1 (ct_ty (b := b) (by omega) rfl) fl_Reader_15 fr_Reader_0 hin d_Reader_init_15 ?_
  rw [ct_r_set (lr_Reader_0 b)]
  show dz_V κ 1 1200 (b + 80) (ct_s b 80) (ct_r b (ct_a (ct_a α (b + 78) 1) (b + 78) 0)) I 18 [(0, .ref (b + 78)), (1, .ref (b + 3))] []
  exact dz_vret x.1 rt d_Reader_init_18 ⟨rfl, rfl, rfl, rfl, rfl⟩
