/-- the character at i of n typed ones, or 0 -/
def sp_at (t : Int → Int) (n i : Int) : Int := if 0 ≤ i ∧ i < n then t i else 0
/-- what is typed: n characters of 32 to 126 -/
def sp_ok (t : Int → Int) (n : Int) : Prop := 0 ≤ n ∧ n ≤ 80 ∧ ∀ j : Int, 0 ≤ j → j < n → 32 ≤ t j ∧ t j ≤ 126
theorem sp_at_rng {t : Int → Int} {n : Int} (h : sp_ok t n) (i : Int) : 0 ≤ sp_at t n i ∧ sp_at t n i ≤ 126 := by
  unfold sp_at
  split
  · have := h.2.2 i (by omega) (by omega); omega
  · omega
/-- whether a character has a cell -/
def sp_has (c : Int) : Bool := decide (c = 32 ∨ ((97 ≤ c ∧ c ≤ 122) ∨ (65 ≤ c ∧ c ≤ 90)) ∨ (48 ≤ c ∧ c ≤ 57) ∨ 0 ≤ sp_ix 1 c)
def sp_allF (t : Int → Int) : Nat → Bool
  | 0 => true
  | k + 1 => sp_allF t k && sp_has (t k)
theorem sp_allF_t {t : Int → Int} {n : Nat} (h : ∀ j : Int, 0 ≤ j → j < n → sp_has (t j) = true) : sp_allF t n = true := by
  induction n with
  | zero => rfl
  | succ k ih =>
    simp only [sp_allF, Bool.and_eq_true]
    exact ⟨ih (fun j h1 h2 => h j h1 (by omega)), h k (by omega) (by omega)⟩
theorem sp_allF_f {t : Int → Int} {n : Nat} {j : Int} (h1 : 0 ≤ j) (h2 : j < n) (h : sp_has (t j) = false) : sp_allF t n = false := by
  induction n with
  | zero => omega
  | succ k ih =>
    simp only [sp_allF, Bool.and_eq_false_iff]
    by_cases e : j = (k : Int)
    · right; rw [← e]; exact h
    · left; exact ih (by omega)
/-- a cell of a block: its dots alone; 0 outside -/
def sp_ca (f : Int → Int) (m j : Int) : Int := if 0 ≤ j ∧ j < m then f j % 64 else 0
theorem sp_ca_rng (f : Int → Int) (m j : Int) : 0 ≤ sp_ca f m j ∧ sp_ca f m j < 64 := by unfold sp_ca; split <;> omega
set_option maxRecDepth 100000 in
set_option maxHeartbeats 4000000 in
theorem c_Typed_put (l : Launch) (D : va_G) (Dt : Nat → ClassId) (b sz : Nat) (I : dz_Hp) (n : Int) (hn : I (b + 1) 1 = n) (hT : sp_ok (I (b + 2)) n) (hn2 : n < 80) (c : Int) (hc : 0 ≤ c ∧ c < 65536) : ly_M l D Dt b sz y_Typed_put b_Typed_put 2 none 1 [.ref (b + 1), .int (dz_i c)] I (fun v I' => v = none ∧ I' = dz_up (dz_up I (b + 2) n c) (b + 1) 1 (n + 1)) := by
  refine ly_enter R_Typed (by decide) rfl (Nat.le_of_ble_eq_true rfl) (ly_cat _ 0 rfl) (fun κ x => ?_)
  have hN := ly_N x
  have h80 := hT.1
  have h81 := hT.2.1
  show ly_V κ b sz I 0 [(0, .ref (b + 1)), (1, .int (dz_i c))] []
  refine dz_aload_n x.1 0 d_Typed_put_0 rfl rfl ?_
  refine dz_geti (z := n) x.1 (ly_Typed b) fl_Typed_15 d_Typed_put_1 hn ?_
  refine dz_aload_n x.1 0 d_Typed_put_4 rfl rfl ?_
  refine dz_getr x.1 (ly_Typed b) fl_Typed_9 (lr_Typed_0 b) d_Typed_put_5 ?_
  refine dz_alen x.1 (ly_TypedRow b) (by decide) d_Typed_put_8 ?_
  show ly_V κ b sz I 9 [(0, .ref (b + 1)), (1, .int (dz_i c))] [.int (dz_i 80), .int (dz_i n)]
  refine dz_icmp_ge (tgt := 32) x.1 d_Typed_put_9 (by decide) (by omega) (by omega) (fun hc1 => by exfalso; omega) (fun hc1 => ?_)
  refine dz_aload_n x.1 0 d_Typed_put_12 rfl rfl ?_
  refine dz_getr x.1 (ly_Typed b) fl_Typed_9 (lr_Typed_0 b) d_Typed_put_13 ?_
  refine dz_aload_n x.1 0 d_Typed_put_16 rfl rfl ?_
  refine dz_geti (z := n) x.1 (ly_Typed b) fl_Typed_15 d_Typed_put_17 hn ?_
  refine dz_iload_n x.1 1 d_Typed_put_20 rfl rfl ?_
  refine dz_cast x.1 (ly_TypedRow b) (by decide) (by omega) (by omega) d_Typed_put_21 ?_
  refine dz_aload_n x.1 0 d_Typed_put_22 rfl rfl ?_
  refine dz_dup x.1 d_Typed_put_23 rfl ?_
  refine dz_geti (z := n) x.1 (ly_Typed b) fl_Typed_15 d_Typed_put_24 (by rw [dz_up_n _ _ _ (by omega)]; exact hn) ?_
  refine dz_iconst x.1 d_Typed_put_27 ?_
  refine dz_iadd (z := n + 1) x.1 d_Typed_put_28 (by omega) ?_
  refine dz_puti x.1 (ly_Typed b) fl_Typed_15 fp_Typed_1 d_Typed_put_29 ?_
  exact ly_vret x d_Typed_put_32 ⟨rfl, rfl⟩
set_option maxRecDepth 100000 in
set_option maxHeartbeats 4000000 in
theorem c_Typed_characterAt (l : Launch) (D : va_G) (Dt : Nat → ClassId) (b sz : Nat) (I : dz_Hp) (n : Int) (hn : I (b + 1) 1 = n) (hT : sp_ok (I (b + 2)) n) (i : Int) (hi : -2147483648 ≤ i ∧ i < 2147483648) : ly_M l D Dt b sz y_Typed_characterAt b_Typed_characterAt 2 (some .char) 1 [.ref (b + 1), .int (dz_i i)] I (fun v I' => v = some (.int (dz_i (sp_at (I (b + 2)) n i))) ∧ I' = I) := by
  refine ly_enter R_Typed (by decide) rfl (Nat.le_of_ble_eq_true rfl) (ly_cat _ 0 rfl) (fun κ x => ?_)
  have hN := ly_N x
  have h80 := hT.1
  have h81 := hT.2.1
  show ly_V κ b sz I 0 [(0, .ref (b + 1)), (1, .int (dz_i i))] []
  refine dz_iload_n x.1 1 d_Typed_characterAt_0 rfl rfl ?_
  refine dz_if_lt (tgt := 21) x.1 d_Typed_characterAt_1 (by decide) (by omega) (fun hc1 => ?_) (fun hc1 => ?_)
  · refine dz_iconst x.1 d_Typed_characterAt_21 ?_
    exact ly_iret x d_Typed_characterAt_22 (dz_nch (by omega)) ⟨by unfold sp_at; first | rw [if_pos (by omega)] | rw [if_neg (by omega)], rfl⟩
  · refine dz_iload_n x.1 1 d_Typed_characterAt_4 rfl rfl ?_
    refine dz_aload_n x.1 0 d_Typed_characterAt_5 rfl rfl ?_
    refine dz_geti (z := n) x.1 (ly_Typed b) fl_Typed_15 d_Typed_characterAt_6 hn ?_
    refine dz_icmp_ge (tgt := 21) x.1 d_Typed_characterAt_9 (by decide) (by omega) (by omega) (fun hc2 => ?_) (fun hc2 => ?_)
    · refine dz_iconst x.1 d_Typed_characterAt_21 ?_
      exact ly_iret x d_Typed_characterAt_22 (dz_nch (by omega)) ⟨by unfold sp_at; first | rw [if_pos (by omega)] | rw [if_neg (by omega)], rfl⟩
    · refine dz_aload_n x.1 0 d_Typed_characterAt_12 rfl rfl ?_
      refine dz_getr x.1 (ly_Typed b) fl_Typed_9 (lr_Typed_0 b) d_Typed_characterAt_13 ?_
      refine dz_iload_n x.1 1 d_Typed_characterAt_16 rfl rfl ?_
      refine dz_cald (w := (I (b + 2) i)) x.1 (ly_TypedRow b) (by decide) (by omega) d_Typed_characterAt_17 rfl ?_
      refine dz_goto (tgt := 22) x.1 d_Typed_characterAt_18 (by decide) ?_
      exact ly_iret x d_Typed_characterAt_22 (dz_nch (by have := hT.2.2 i (by omega) (by omega); omega)) ⟨by unfold sp_at; first | rw [if_pos (by omega)] | rw [if_neg (by omega)], rfl⟩
set_option maxRecDepth 100000 in
set_option maxHeartbeats 4000000 in
theorem c_Typed_canBeTranslated (l : Launch) (D : va_G) (Dt : Nat → ClassId) (b sz : Nat) (I : dz_Hp) (n : Int) (hn : I (b + 1) 1 = n) (hT : sp_ok (I (b + 2)) n)  : ly_M l D Dt b sz y_Typed_canBeTranslated b_Typed_canBeTranslated 2 (some .boolean) 6 [.ref (b + 1)] I (fun v I' => v = some (.int (dz_i (if sp_allF (I (b + 2)) n.toNat = true then 1 else 0))) ∧ I' = I) := by
  refine ly_enter R_Typed (by decide) rfl (Nat.le_of_ble_eq_true rfl) (ly_cat _ 0 rfl) (fun κ x => ?_)
  have hN := ly_N x
  have h80 := hT.1
  have h81 := hT.2.1
  show ly_V κ b sz I 0 [(0, .ref (b + 1))] []
  have loop : ∀ (k : Nat) (i : Int), 0 ≤ i ∧ i + (k : Int) = n → (∀ j : Int, 0 ≤ j → j < i → sp_has (I (b + 2) j) = true) → ly_V κ b sz I 2 [(0, .ref (b + 1)), (1, .int (dz_i i))] [] := by
    intro k
    induction k with
    | zero =>
      intro i hi hv
      refine dz_iload_n x.1 1 d_Typed_canBeTranslated_2 rfl rfl ?_
      refine dz_aload_n x.1 0 d_Typed_canBeTranslated_3 rfl rfl ?_
      refine dz_geti (z := n) x.1 (ly_Typed b) fl_Typed_15 d_Typed_canBeTranslated_4 hn ?_
      refine dz_icmp_ge (tgt := 30) x.1 d_Typed_canBeTranslated_7 (by decide) (by omega) (by omega) (fun hc1 => ?_) (fun hc1 => by exfalso; omega)
      refine dz_iconst x.1 d_Typed_canBeTranslated_30 ?_
      exact ly_iret x d_Typed_canBeTranslated_31 (dz_nbo (by omega)) ⟨by rw [if_pos (sp_allF_t (fun j h1 h2 => hv j h1 (by omega)))], rfl⟩
    | succ k ih =>
      intro i hi hv
      have hch := hT.2.2 i (by omega) (by omega)
      refine dz_iload_n x.1 1 d_Typed_canBeTranslated_2 rfl rfl ?_
      refine dz_aload_n x.1 0 d_Typed_canBeTranslated_3 rfl rfl ?_
      refine dz_geti (z := n) x.1 (ly_Typed b) fl_Typed_15 d_Typed_canBeTranslated_4 hn ?_
      refine dz_icmp_ge (tgt := 30) x.1 d_Typed_canBeTranslated_7 (by decide) (by omega) (by omega) (fun hc1 => by exfalso; omega) (fun hc1 => ?_)
      refine dz_aload_n x.1 0 d_Typed_canBeTranslated_10 rfl rfl ?_
      refine dz_getr x.1 (ly_Typed b) fl_Typed_9 (lr_Typed_0 b) d_Typed_canBeTranslated_11 ?_
      refine dz_iload_n x.1 1 d_Typed_canBeTranslated_14 rfl rfl ?_
      refine dz_cald (w := (I (b + 2) i)) x.1 (ly_TypedRow b) (by decide) (by omega) d_Typed_canBeTranslated_15 rfl ?_
      refine ly_callS (rest := []) x cl_Typed_19 (c_Code_hasCell l D Dt b sz I (I (b + 2) i) (by omega)) (by decide) rfl rfl (Nat.le_of_ble_eq_true rfl) d_Typed_canBeTranslated_16 (fun v I' hp2 => ?_)
      obtain ⟨rfl, hp2I⟩ := hp2
      have hp2I := hp2I.symm
      subst hp2I
      show ly_V κ b sz I 19 [(0, .ref (b + 1)), (1, .int (dz_i i))] [.int (dz_i (if I (b + 2) i = 32 ∨ ((97 ≤ I (b + 2) i ∧ I (b + 2) i ≤ 122) ∨ (65 ≤ I (b + 2) i ∧ I (b + 2) i ≤ 90)) ∨ (48 ≤ I (b + 2) i ∧ I (b + 2) i ≤ 57) ∨ 0 ≤ sp_ix 1 (I (b + 2) i) then 1 else 0))]
      refine dz_if_ne (tgt := 24) x.1 d_Typed_canBeTranslated_19 (by decide) (dz_br _) (fun hc3 => ?_) (fun hc3 => ?_)
      · have hc3 : I (b + 2) i = 32 ∨ ((97 ≤ I (b + 2) i ∧ I (b + 2) i ≤ 122) ∨ (65 ≤ I (b + 2) i ∧ I (b + 2) i ≤ 90)) ∨ (48 ≤ I (b + 2) i ∧ I (b + 2) i ≤ 57) ∨ 0 ≤ sp_ix 1 (I (b + 2) i) := dz_bt hc3
        refine dz_iinc (z := i + 1) (ls' := [(0, .ref (b + 1)), (1, .int (dz_i (i + 1)))]) x.1 1 d_Typed_canBeTranslated_24 rfl hN (by decide) (by omega) rfl ?_
        refine dz_goto (tgt := 2) x.1 d_Typed_canBeTranslated_27 (by decide) ?_
        exact ih (i + 1) (by omega) (fun j h1 h2 => by
        by_cases e : j = i
        · rw [e]; exact decide_eq_true hc3
        · exact hv j h1 (by omega))
      · have hc3 : ¬ (I (b + 2) i = 32 ∨ ((97 ≤ I (b + 2) i ∧ I (b + 2) i ≤ 122) ∨ (65 ≤ I (b + 2) i ∧ I (b + 2) i ≤ 90)) ∨ (48 ≤ I (b + 2) i ∧ I (b + 2) i ≤ 57) ∨ 0 ≤ sp_ix 1 (I (b + 2) i)) := dz_bf hc3
        refine dz_iconst x.1 d_Typed_canBeTranslated_22 ?_
        exact ly_iret x d_Typed_canBeTranslated_23 (dz_nbo (by omega)) ⟨by rw [if_neg (by rw [sp_allF_f (j := i) (by omega) (by omega) (decide_eq_false hc3)]; decide)], rfl⟩
  refine dz_iconst x.1 d_Typed_canBeTranslated_0 ?_
  refine dz_istore_n (ls' := [(0, .ref (b + 1)), (1, .int (dz_i 0))]) x.1 d_Typed_canBeTranslated_1 rfl hN (by decide) rfl ?_
  exact loop n.toNat 0 (by omega) (fun j h1 h2 => by omega)
set_option maxRecDepth 100000 in
set_option maxHeartbeats 4000000 in
theorem c_Block_begin (l : Launch) (D : va_G) (Dt : Nat → ClassId) (b sz : Nat) (I : dz_Hp) (i : Nat) (hi : i < 12) (k : Int) : ly_M l D Dt b sz y_Block_begin b_Block_begin 2 none 1 [.ref (b + (82 + 4 * i)), .int (dz_i k)] I (fun v I' => v = none ∧ I' = dz_up (dz_up I (b + (82 + 4 * i)) 0 k) (b + (82 + 4 * i)) 2 0) := by
  refine ly_enter R_Block (by decide) rfl (Nat.le_of_ble_eq_true rfl) (ly_cat _ 0 rfl) (fun κ x => ?_)
  have hN := ly_N x
  show ly_V κ b sz I 0 [(0, .ref (b + (82 + 4 * i))), (1, .int (dz_i k))] []
  refine dz_aload_n x.1 0 d_Block_begin_0 rfl rfl ?_
  refine dz_iload_n x.1 1 d_Block_begin_1 rfl rfl ?_
  refine dz_puti x.1 (ly_Block b hi) fl_Block_21 fp_Block_0 d_Block_begin_2 ?_
  refine dz_aload_n x.1 0 d_Block_begin_5 rfl rfl ?_
  refine dz_iconst x.1 d_Block_begin_6 ?_
  refine dz_puti x.1 (ly_Block b hi) fl_Block_25 fp_Block_2 d_Block_begin_7 ?_
  exact ly_vret x d_Block_begin_10 ⟨rfl, rfl⟩
set_option maxRecDepth 100000 in
set_option maxHeartbeats 4000000 in
theorem c_Block_put (l : Launch) (D : va_G) (Dt : Nat → ClassId) (b sz : Nat) (I : dz_Hp) (i : Nat) (hi : i < 12) (m : Int) (hm : I (b + (82 + 4 * i)) 2 = m) (hm2 : 0 ≤ m ∧ m ≤ 200) (hm3 : m < 200) (p q : Int) : ly_M l D Dt b sz y_Block_put b_Block_put 3 none 1 [.ref (b + (82 + 4 * i)), .int (dz_i p), .int (dz_i q)] I (fun v I' => v = none ∧ I' = dz_up (dz_up I (b + (83 + 4 * i)) m (p + 64 * q)) (b + (82 + 4 * i)) 2 (m + 1)) := by
  refine ly_enter R_Block (by decide) rfl (Nat.le_of_ble_eq_true rfl) (ly_cat _ 0 rfl) (fun κ x => ?_)
  have hN := ly_N x
  show ly_V κ b sz I 0 [(0, .ref (b + (82 + 4 * i))), (1, .int (dz_i p)), (2, .int (dz_i q))] []
  refine dz_aload_n x.1 0 d_Block_put_0 rfl rfl ?_
  refine dz_geti (z := m) x.1 (ly_Block b hi) fl_Block_25 d_Block_put_1 hm ?_
  refine dz_aload_n x.1 0 d_Block_put_4 rfl rfl ?_
  refine dz_getr x.1 (ly_Block b hi) fl_Block_9 (lr_Block_1 b hi) d_Block_put_5 ?_
  refine dz_alen x.1 (ly_BCells b hi) (by decide) d_Block_put_8 ?_
  show ly_V κ b sz I 9 [(0, .ref (b + (82 + 4 * i))), (1, .int (dz_i p)), (2, .int (dz_i q))] [.int (dz_i 200), .int (dz_i m)]
  refine dz_icmp_ge (tgt := 37) x.1 d_Block_put_9 (by decide) (by omega) (by omega) (fun hc1 => by exfalso; omega) (fun hc1 => ?_)
  refine dz_aload_n x.1 0 d_Block_put_12 rfl rfl ?_
  refine dz_getr x.1 (ly_Block b hi) fl_Block_9 (lr_Block_1 b hi) d_Block_put_13 ?_
  refine dz_aload_n x.1 0 d_Block_put_16 rfl rfl ?_
  refine dz_geti (z := m) x.1 (ly_Block b hi) fl_Block_25 d_Block_put_17 hm ?_
  refine dz_iload_n x.1 1 d_Block_put_20 rfl rfl ?_
  refine dz_bipush x.1 d_Block_put_21 (by decide) ?_
  refine dz_iload_n x.1 2 d_Block_put_23 rfl rfl ?_
  refine dz_imul (z := 64 * q) x.1 d_Block_put_24 (by omega) ?_
  refine dz_iadd (z := p + 64 * q) x.1 d_Block_put_25 (by omega) ?_
  refine dz_iast x.1 (ly_BCells b hi) (by decide) (by omega) d_Block_put_26 ?_
  refine dz_aload_n x.1 0 d_Block_put_27 rfl rfl ?_
  refine dz_dup x.1 d_Block_put_28 rfl ?_
  refine dz_geti (z := m) x.1 (ly_Block b hi) fl_Block_25 d_Block_put_29 (by rw [dz_up_n _ _ _ (by omega)]; exact hm) ?_
  refine dz_iconst x.1 d_Block_put_32 ?_
  refine dz_iadd (z := m + 1) x.1 d_Block_put_33 (by omega) ?_
  refine dz_puti x.1 (ly_Block b hi) fl_Block_25 fp_Block_2 d_Block_put_34 ?_
  exact ly_vret x d_Block_put_37 ⟨rfl, rfl⟩
set_option maxRecDepth 100000 in
set_option maxHeartbeats 4000000 in
theorem c_Block_cellAt (l : Launch) (D : va_G) (Dt : Nat → ClassId) (b sz : Nat) (I : dz_Hp) (i : Nat) (hi : i < 12) (m : Int) (hm : I (b + (82 + 4 * i)) 2 = m) (hm2 : 0 ≤ m ∧ m ≤ 200) (hp : ∀ j : Int, 0 ≤ j → j < m → 0 ≤ I (b + (83 + 4 * i)) j ∧ I (b + (83 + 4 * i)) j < 2147483648) (j : Int) (hj : -2147483648 ≤ j ∧ j < 2147483648) : ly_M l D Dt b sz y_Block_cellAt b_Block_cellAt 2 (some .int) 1 [.ref (b + (82 + 4 * i)), .int (dz_i j)] I (fun v I' => v = some (.int (dz_i (sp_ca (I (b + (83 + 4 * i))) m j))) ∧ I' = I) := by
  refine ly_enter R_Block (by decide) rfl (Nat.le_of_ble_eq_true rfl) (ly_cat _ 0 rfl) (fun κ x => ?_)
  have hN := ly_N x
  show ly_V κ b sz I 0 [(0, .ref (b + (82 + 4 * i))), (1, .int (dz_i j))] []
  refine dz_iload_n x.1 1 d_Block_cellAt_0 rfl rfl ?_
  refine dz_if_lt (tgt := 24) x.1 d_Block_cellAt_1 (by decide) (by omega) (fun hc1 => ?_) (fun hc1 => ?_)
  · refine dz_iconst x.1 d_Block_cellAt_24 ?_
    exact ly_iret x d_Block_cellAt_25 rfl ⟨by unfold sp_ca; first | rw [if_pos (by omega)] | rw [if_neg (by omega)], rfl⟩
  · refine dz_iload_n x.1 1 d_Block_cellAt_4 rfl rfl ?_
    refine dz_aload_n x.1 0 d_Block_cellAt_5 rfl rfl ?_
    refine dz_geti (z := m) x.1 (ly_Block b hi) fl_Block_25 d_Block_cellAt_6 hm ?_
    refine dz_icmp_ge (tgt := 24) x.1 d_Block_cellAt_9 (by decide) (by omega) (by omega) (fun hc2 => ?_) (fun hc2 => ?_)
    · refine dz_iconst x.1 d_Block_cellAt_24 ?_
      exact ly_iret x d_Block_cellAt_25 rfl ⟨by unfold sp_ca; first | rw [if_pos (by omega)] | rw [if_neg (by omega)], rfl⟩
    · refine dz_aload_n x.1 0 d_Block_cellAt_12 rfl rfl ?_
      refine dz_getr x.1 (ly_Block b hi) fl_Block_9 (lr_Block_1 b hi) d_Block_cellAt_13 ?_
      refine dz_iload_n x.1 1 d_Block_cellAt_16 rfl rfl ?_
      refine dz_iald (w := (I (b + (83 + 4 * i)) j)) x.1 (ly_BCells b hi) (by decide) (by omega) d_Block_cellAt_17 rfl ?_
      have hv := hp j (by omega) (by omega)
      refine dz_bipush x.1 d_Block_cellAt_18 (by decide) ?_
      refine dz_irem x.1 d_Block_cellAt_20 (by omega) (by omega) ?_
      refine dz_goto (tgt := 25) x.1 d_Block_cellAt_21 (by decide) ?_
      exact ly_iret x d_Block_cellAt_25 rfl ⟨by unfold sp_ca; first | rw [if_pos (by omega)] | rw [if_neg (by omega)], rfl⟩
