theorem sp_tk1 : ∀ (L : List (List Int)) (q : Nat), q < L.length → (L.take (q + 1)).flatten.length = (L.take q).flatten.length + (L.getD q []).length := by
  intro L
  induction L with
  | nil => intro q h; simp at h
  | cons a t ih =>
    intro q h
    cases q with
    | zero => simp
    | succ q =>
      have := ih q (by simp at h; omega)
      simp only [List.take_succ_cons, List.flatten_cons, List.length_append, List.getD_cons_succ]
      omega
theorem sp_flat_get : ∀ (L : List (List Int)) (q j : Nat), q < L.length → j < (L.getD q []).length → L.flatten[(L.take q).flatten.length + j]? = some ((L.getD q []).getD j 0) := by
  intro L
  induction L with
  | nil => intro q j h; simp at h
  | cons a t ih =>
    intro q j h hj
    cases q with
    | zero =>
      simp only [List.getD_cons_zero] at hj ⊢
      simp only [List.take_zero, List.flatten_nil, List.length_nil, Nat.zero_add, List.flatten_cons]
      rw [List.getElem?_append_left hj, List.getD_eq_getElem?_getD, List.getElem?_eq_getElem hj]; rfl
    | succ q =>
      simp only [List.getD_cons_succ] at hj ⊢
      have := ih q j (by simp at h; omega) hj
      simp only [List.take_succ_cons, List.flatten_cons, List.length_append]
      rw [List.getElem?_append_right (by omega), ← this]
      congr 1
      omega
theorem sp_take_le (L : List (List Int)) (q : Nat) : (L.take q).flatten.length ≤ L.flatten.length := by
  have h : L.flatten.length = (L.take q ++ L.drop q).flatten.length := by rw [List.take_append_drop]
  rw [h, List.flatten_append, List.length_append]
  omega
theorem sp_gd (C : List (List Int)) (r : List Int) : (C ++ [r]).getD C.length [] = r := by simp
def sp_ct (W k : Int) (C : List (List Int)) (r : List Int) (v : Int) : sp_Ls := if (r.length : Int) < W - sp_ind k (C.length : Int) then (C, r ++ [v]) else (C ++ [r], [v])
theorem sp_st_in {W k : Int} {h : Int → Int} {j : Int} {C : List (List Int)} {r : List Int} (h1 : ¬ h j = 0) (h2 : ¬ h (j - 1) = 0) : sp_st W k h j (C, r) = sp_ct W k C r (h j) := by
  unfold sp_st; rw [if_neg h1, if_neg h2]; rfl
def sp_off (W k : Int) (row : List Int) (n : Int) : Int := if k = 1 then (W - (row.length : Int)) / 2 else sp_ind k n
def sp_col (W k : Int) (L : List (List Int)) (q : Nat) (pl : Int) : Int := if 0 ≤ pl - sp_off W k (L.getD q []) q ∧ pl - sp_off W k (L.getD q []) q < ((L.getD q []).length : Int) then (L.getD q []).getD (pl - sp_off W k (L.getD q []) q).toNat 0 else 0
set_option maxRecDepth 100000 in
set_option maxHeartbeats 4000000 in
theorem c_Block_beginLine (l : Launch) (D : va_G) (Dt : Nat → ClassId) (b sz : Nat) (I : dz_Hp) (i : Nat) (hi : i < 12) (L : List (List Int)) (LI : sp_L b i I L) (hl : L.length < 200) : ly_M l D Dt b sz y_Block_beginLine b_Block_beginLine 1 none 1 [.ref (b + (82 + 4 * i))] I (fun v I' => v = none ∧ sp_fr I I' (fun q => q = b + (82 + 4 * i) ∨ q = b + (85 + 4 * i)) ∧ (∀ k : Int, k ≠ 6 → I' (b + (82 + 4 * i)) k = I (b + (82 + 4 * i)) k) ∧ sp_L b i I' (L ++ [[]])) := by
  refine ly_enter R_Block (by decide) rfl (Nat.le_of_ble_eq_true rfl) (ly_cat _ 0 rfl) (fun κ x => ?_)
  have hN := ly_N x
  show ly_V κ b sz I 0 [(0, .ref (b + (82 + 4 * i)))] []
  refine dz_aload_n x.1 0 d_Block_beginLine_0 rfl rfl ?_
  refine dz_geti (z := ((L).length : Int)) x.1 (ly_Block b hi) fl_Block_35 d_Block_beginLine_1 LI.1 ?_
  refine dz_aload_n x.1 0 d_Block_beginLine_4 rfl rfl ?_
  refine dz_getr x.1 (ly_Block b hi) fl_Block_18 (lr_Block_5 b hi) d_Block_beginLine_5 ?_
  refine dz_alen x.1 (ly_LineBegins b hi) (by decide) d_Block_beginLine_8 ?_
  show ly_V κ b sz I 9 [(0, .ref (b + (82 + 4 * i)))] [.int (dz_i 200), .int (dz_i ((L).length : Int))]
  refine dz_icmp_ge (tgt := 35) x.1 d_Block_beginLine_9 (by decide) (by omega) (by omega) (fun hc9 => by exfalso; omega) (fun hc9 => ?_)
  refine dz_aload_n x.1 0 d_Block_beginLine_12 rfl rfl ?_
  refine dz_getr x.1 (ly_Block b hi) fl_Block_18 (lr_Block_5 b hi) d_Block_beginLine_13 ?_
  refine dz_aload_n x.1 0 d_Block_beginLine_16 rfl rfl ?_
  refine dz_geti (z := ((L).length : Int)) x.1 (ly_Block b hi) fl_Block_35 d_Block_beginLine_17 LI.1 ?_
  refine dz_aload_n x.1 0 d_Block_beginLine_20 rfl rfl ?_
  refine dz_geti (z := ((L).flatten.length : Int)) x.1 (ly_Block b hi) fl_Block_32 d_Block_beginLine_21 LI.2.1 ?_
  refine dz_iast x.1 (ly_LineBegins b hi) (by decide) (by omega) d_Block_beginLine_24 ?_
  refine dz_aload_n x.1 0 d_Block_beginLine_25 rfl rfl ?_
  refine dz_dup x.1 d_Block_beginLine_26 rfl ?_
  refine dz_geti (z := ((L).length : Int)) x.1 (ly_Block b hi) fl_Block_35 d_Block_beginLine_27 (by rw [dz_up_n _ _ _ (by omega)]; exact LI.1) ?_
  refine dz_iconst x.1 d_Block_beginLine_30 ?_
  refine dz_iadd (z := ((L).length : Int) + 1) x.1 d_Block_beginLine_31 (by omega) ?_
  refine dz_puti x.1 (ly_Block b hi) fl_Block_35 fp_Block_6 d_Block_beginLine_32 ?_
  exact ly_vret x d_Block_beginLine_35 ⟨rfl, (sp_fr.rf.up (Or.inr rfl)).up (Or.inl rfl), fun k hk => by rw [dz_up_k _ _ _ hk, dz_up_n _ _ _ (by omega)], LI.line⟩
set_option maxRecDepth 100000 in
set_option maxHeartbeats 4000000 in
theorem c_Block_layCell (l : Launch) (D : va_G) (Dt : Nat → ClassId) (b sz : Nat) (I : dz_Hp) (i : Nat) (hi : i < 12) (C : List (List Int)) (r : List Int) (LI : sp_L b i I (C ++ [r])) (hl : (C ++ [r]).flatten.length < 200) (p : Int) : ly_M l D Dt b sz y_Block_layCell b_Block_layCell 2 none 1 [.ref (b + (82 + 4 * i)), .int (dz_i p)] I (fun v I' => v = none ∧ sp_fr I I' (fun q => q = b + (82 + 4 * i) ∨ q = b + (84 + 4 * i)) ∧ (∀ k : Int, k ≠ 4 → I' (b + (82 + 4 * i)) k = I (b + (82 + 4 * i)) k) ∧ sp_L b i I' (C ++ [r ++ [p]])) := by
  refine ly_enter R_Block (by decide) rfl (Nat.le_of_ble_eq_true rfl) (ly_cat _ 0 rfl) (fun κ x => ?_)
  have hN := ly_N x
  show ly_V κ b sz I 0 [(0, .ref (b + (82 + 4 * i))), (1, .int (dz_i p))] []
  refine dz_aload_n x.1 0 d_Block_layCell_0 rfl rfl ?_
  refine dz_geti (z := ((C ++ [r]).flatten.length : Int)) x.1 (ly_Block b hi) fl_Block_32 d_Block_layCell_1 LI.2.1 ?_
  refine dz_aload_n x.1 0 d_Block_layCell_4 rfl rfl ?_
  refine dz_getr x.1 (ly_Block b hi) fl_Block_15 (lr_Block_3 b hi) d_Block_layCell_5 ?_
  refine dz_alen x.1 (ly_Laid b hi) (by decide) d_Block_layCell_8 ?_
  show ly_V κ b sz I 9 [(0, .ref (b + (82 + 4 * i))), (1, .int (dz_i p))] [.int (dz_i 200), .int (dz_i ((C ++ [r]).flatten.length : Int))]
  refine dz_icmp_ge (tgt := 32) x.1 d_Block_layCell_9 (by decide) (by omega) (by omega) (fun hc9 => by exfalso; omega) (fun hc9 => ?_)
  refine dz_aload_n x.1 0 d_Block_layCell_12 rfl rfl ?_
  refine dz_getr x.1 (ly_Block b hi) fl_Block_15 (lr_Block_3 b hi) d_Block_layCell_13 ?_
  refine dz_aload_n x.1 0 d_Block_layCell_16 rfl rfl ?_
  refine dz_geti (z := ((C ++ [r]).flatten.length : Int)) x.1 (ly_Block b hi) fl_Block_32 d_Block_layCell_17 LI.2.1 ?_
  refine dz_iload_n x.1 1 d_Block_layCell_20 rfl rfl ?_
  refine dz_iast x.1 (ly_Laid b hi) (by decide) (by omega) d_Block_layCell_21 ?_
  refine dz_aload_n x.1 0 d_Block_layCell_22 rfl rfl ?_
  refine dz_dup x.1 d_Block_layCell_23 rfl ?_
  refine dz_geti (z := ((C ++ [r]).flatten.length : Int)) x.1 (ly_Block b hi) fl_Block_32 d_Block_layCell_24 (by rw [dz_up_n _ _ _ (by omega)]; exact LI.2.1) ?_
  refine dz_iconst x.1 d_Block_layCell_27 ?_
  refine dz_iadd (z := ((C ++ [r]).flatten.length : Int) + 1) x.1 d_Block_layCell_28 (by omega) ?_
  refine dz_puti x.1 (ly_Block b hi) fl_Block_32 fp_Block_4 d_Block_layCell_29 ?_
  exact ly_vret x d_Block_layCell_32 ⟨rfl, (sp_fr.rf.up (Or.inr rfl)).up (Or.inl rfl), fun k hk => by rw [dz_up_k _ _ _ hk, dz_up_n _ _ _ (by omega)], LI.cell⟩
set_option maxRecDepth 100000 in
set_option maxHeartbeats 4000000 in
theorem c_Block_indentOf (l : Launch) (D : va_G) (Dt : Nat → ClassId) (b sz : Nat) (I : dz_Hp) (i : Nat) (hi : i < 12) (k : Int) (hk : I (b + (82 + 4 * i)) 0 = k) (hk2 : 0 ≤ k ∧ k ≤ 3) (n : Int) (hn : -1000 ≤ n ∧ n ≤ 1000) : ly_M l D Dt b sz y_Block_indentOf b_Block_indentOf 2 (some .int) 1 [.ref (b + (82 + 4 * i)), .int (dz_i n)] I (fun v I' => v = some (.int (dz_i (sp_ind k n))) ∧ I' = I) := by
  refine ly_enter R_Block (by decide) rfl (Nat.le_of_ble_eq_true rfl) (ly_cat _ 0 rfl) (fun κ x => ?_)
  have hN := ly_N x
  show ly_V κ b sz I 0 [(0, .ref (b + (82 + 4 * i))), (1, .int (dz_i n))] []
  refine dz_aload_n x.1 0 d_Block_indentOf_0 rfl rfl ?_
  refine dz_geti (z := k) x.1 (ly_Block b hi) fl_Block_21 d_Block_indentOf_1 hk ?_
  refine dz_if_ne (tgt := 17) x.1 d_Block_indentOf_4 (by decide) (by omega) (fun hc4 => ?_) (fun hc4 => ?_)
  · refine dz_aload_n x.1 0 d_Block_indentOf_17 rfl rfl ?_
    refine dz_geti (z := k) x.1 (ly_Block b hi) fl_Block_21 d_Block_indentOf_18 hk ?_
    refine dz_iconst x.1 d_Block_indentOf_21 ?_
    refine dz_icmp_ne (tgt := 33) x.1 d_Block_indentOf_22 (by decide) (by omega) (by omega) (fun hc22 => ?_) (fun hc22 => ?_)
    · refine dz_iconst x.1 d_Block_indentOf_33 ?_
      exact ly_iret x d_Block_indentOf_34 rfl ⟨by unfold sp_ind; (repeat (first | rw [if_pos (by omega)] | rw [if_neg (by omega)])), rfl⟩
    · refine dz_iload_n x.1 1 d_Block_indentOf_25 rfl rfl ?_
      refine dz_if_le (tgt := 33) x.1 d_Block_indentOf_26 (by decide) (by omega) (fun hc26 => ?_) (fun hc26 => ?_)
      · refine dz_iconst x.1 d_Block_indentOf_33 ?_
        exact ly_iret x d_Block_indentOf_34 rfl ⟨by unfold sp_ind; (repeat (first | rw [if_pos (by omega)] | rw [if_neg (by omega)])), rfl⟩
      · refine dz_iconst x.1 d_Block_indentOf_29 ?_
        refine dz_goto (tgt := 34) x.1 d_Block_indentOf_30 (by decide) ?_
        exact ly_iret x d_Block_indentOf_34 rfl ⟨by unfold sp_ind; (repeat (first | rw [if_pos (by omega)] | rw [if_neg (by omega)])), rfl⟩
  · refine dz_iload_n x.1 1 d_Block_indentOf_7 rfl rfl ?_
    refine dz_if_ne (tgt := 15) x.1 d_Block_indentOf_8 (by decide) (by omega) (fun hc8 => ?_) (fun hc8 => ?_)
    · refine dz_iconst x.1 d_Block_indentOf_15 ?_
      exact ly_iret x d_Block_indentOf_16 rfl ⟨by unfold sp_ind; (repeat (first | rw [if_pos (by omega)] | rw [if_neg (by omega)])), rfl⟩
    · refine dz_iconst x.1 d_Block_indentOf_11 ?_
      refine dz_goto (tgt := 16) x.1 d_Block_indentOf_12 (by decide) ?_
      exact ly_iret x d_Block_indentOf_16 rfl ⟨by unfold sp_ind; (repeat (first | rw [if_pos (by omega)] | rw [if_neg (by omega)])), rfl⟩
set_option maxRecDepth 100000 in
set_option maxHeartbeats 4000000 in
theorem c_Block_lengthOf (l : Launch) (D : va_G) (Dt : Nat → ClassId) (b sz : Nat) (I : dz_Hp) (i : Nat) (hi : i < 12) (L : List (List Int)) (LI : sp_L b i I L) (hL : L.length ≤ 200) (hf : L.flatten.length ≤ 400) (q : Nat) (hq : q < L.length) : ly_M l D Dt b sz y_Block_lengthOf b_Block_lengthOf 3 (some .int) 1 [.ref (b + (82 + 4 * i)), .int (dz_i (q : Int))] I (fun v I' => v = some (.int (dz_i ((L.getD q []).length : Int))) ∧ I' = I) := by
  refine ly_enter R_Block (by decide) rfl (Nat.le_of_ble_eq_true rfl) (ly_cat _ 0 rfl) (fun κ x => ?_)
  have hN := ly_N x
  have ht1 := sp_tk1 L q hq
  have ht2 := sp_take_le L q
  have ht3 := sp_take_le L (q + 1)
  show ly_V κ b sz I 0 [(0, .ref (b + (82 + 4 * i))), (1, .int (dz_i (q : Int)))] []
  refine dz_iload_n x.1 1 d_Block_lengthOf_0 rfl rfl ?_
  refine dz_if_lt (tgt := 12) x.1 d_Block_lengthOf_1 (by decide) (by omega) (fun hc1 => by exfalso; omega) (fun hc1 => ?_)
  refine dz_iload_n x.1 1 d_Block_lengthOf_4 rfl rfl ?_
  refine dz_aload_n x.1 0 d_Block_lengthOf_5 rfl rfl ?_
  refine dz_geti (z := ((L).length : Int)) x.1 (ly_Block b hi) fl_Block_35 d_Block_lengthOf_6 LI.1 ?_
  refine dz_icmp_lt (tgt := 14) x.1 d_Block_lengthOf_9 (by decide) (by omega) (by omega) (fun hc9 => ?_) (fun hc9 => by exfalso; omega)
  refine dz_iload_n x.1 1 d_Block_lengthOf_14 rfl rfl ?_
  refine dz_iconst x.1 d_Block_lengthOf_15 ?_
  refine dz_iadd (z := (q : Int) + 1) x.1 d_Block_lengthOf_16 (by omega) ?_
  refine dz_aload_n x.1 0 d_Block_lengthOf_17 rfl rfl ?_
  refine dz_geti (z := ((L).length : Int)) x.1 (ly_Block b hi) fl_Block_35 d_Block_lengthOf_18 LI.1 ?_
  refine dz_icmp_ge (tgt := 35) x.1 d_Block_lengthOf_21 (by decide) (by omega) (by omega) (fun hc21 => ?_) (fun hc21 => ?_)
  · have ht4 : L.flatten.length = (L.take (q + 1)).flatten.length := by rw [List.take_of_length_le (by omega)]
    refine dz_aload_n x.1 0 d_Block_lengthOf_35 rfl rfl ?_
    refine dz_geti (z := ((L).flatten.length : Int)) x.1 (ly_Block b hi) fl_Block_32 d_Block_lengthOf_36 LI.2.1 ?_
    refine dz_istore_n (ls' := [(0, .ref (b + (82 + 4 * i))), (1, .int (dz_i (q : Int))), (2, .int (dz_i ((L).flatten.length : Int)))]) x.1 d_Block_lengthOf_39 rfl hN (by decide) rfl ?_
    refine dz_iload_n x.1 2 d_Block_lengthOf_40 rfl rfl ?_
    refine dz_aload_n x.1 0 d_Block_lengthOf_41 rfl rfl ?_
    refine dz_getr x.1 (ly_Block b hi) fl_Block_18 (lr_Block_5 b hi) d_Block_lengthOf_42 ?_
    refine dz_iload_n x.1 1 d_Block_lengthOf_45 rfl rfl ?_
    refine dz_iald (w := ((L.take q).flatten.length : Int)) x.1 (ly_LineBegins b hi) (by decide) (by omega) d_Block_lengthOf_46 (LI.2.2.1 q hq) ?_
    refine dz_isub (z := ((L).flatten.length : Int) - ((L.take q).flatten.length : Int)) x.1 d_Block_lengthOf_47 (by omega) ?_
    have hv9 : ((L).flatten.length : Int) - ((L.take q).flatten.length : Int) = ((L.getD q []).length : Int) := by omega
    exact ly_iret x d_Block_lengthOf_48 rfl ⟨by rw [hv9], rfl⟩
  · refine dz_aload_n x.1 0 d_Block_lengthOf_24 rfl rfl ?_
    refine dz_getr x.1 (ly_Block b hi) fl_Block_18 (lr_Block_5 b hi) d_Block_lengthOf_25 ?_
    refine dz_iload_n x.1 1 d_Block_lengthOf_28 rfl rfl ?_
    refine dz_iconst x.1 d_Block_lengthOf_29 ?_
    refine dz_iadd (z := (q : Int) + 1) x.1 d_Block_lengthOf_30 (by omega) ?_
    refine dz_iald (w := ((L.take (q + 1)).flatten.length : Int)) x.1 (ly_LineBegins b hi) (by decide) (by omega) d_Block_lengthOf_31 (by have h9 := LI.2.2.1 (q + 1) (by omega); rw [show ((q + 1 : Nat) : Int) = (q : Int) + 1 by omega] at h9; exact h9) ?_
    refine dz_goto (tgt := 39) x.1 d_Block_lengthOf_32 (by decide) ?_
    refine dz_istore_n (ls' := [(0, .ref (b + (82 + 4 * i))), (1, .int (dz_i (q : Int))), (2, .int (dz_i ((L.take (q + 1)).flatten.length : Int)))]) x.1 d_Block_lengthOf_39 rfl hN (by decide) rfl ?_
    refine dz_iload_n x.1 2 d_Block_lengthOf_40 rfl rfl ?_
    refine dz_aload_n x.1 0 d_Block_lengthOf_41 rfl rfl ?_
    refine dz_getr x.1 (ly_Block b hi) fl_Block_18 (lr_Block_5 b hi) d_Block_lengthOf_42 ?_
    refine dz_iload_n x.1 1 d_Block_lengthOf_45 rfl rfl ?_
    refine dz_iald (w := ((L.take q).flatten.length : Int)) x.1 (ly_LineBegins b hi) (by decide) (by omega) d_Block_lengthOf_46 (LI.2.2.1 q hq) ?_
    refine dz_isub (z := ((L.take (q + 1)).flatten.length : Int) - ((L.take q).flatten.length : Int)) x.1 d_Block_lengthOf_47 (by omega) ?_
    have hv9 : ((L.take (q + 1)).flatten.length : Int) - ((L.take q).flatten.length : Int) = ((L.getD q []).length : Int) := by omega
    exact ly_iret x d_Block_lengthOf_48 rfl ⟨by rw [hv9], rfl⟩
theorem c_lenLast (l : Launch) (D : va_G) (Dt : Nat → ClassId) (b sz : Nat) (I : dz_Hp) (i : Nat) (hi : i < 12) (C : List (List Int)) (r : List Int) (LI : sp_L b i I (C ++ [r])) (hL : (C ++ [r]).length ≤ 200) (hf : (C ++ [r]).flatten.length ≤ 400) : ly_M l D Dt b sz y_Block_lengthOf b_Block_lengthOf 3 (some .int) 1 [.ref (b + (82 + 4 * i)), .int (dz_i (C.length : Int))] I (fun v I' => v = some (.int (dz_i (r.length : Int))) ∧ I' = I) := by
  have h := c_Block_lengthOf l D Dt b sz I i hi (C ++ [r]) LI hL hf C.length (by simp)
  rw [sp_gd] at h
  exact h
set_option maxRecDepth 100000 in
set_option maxHeartbeats 4000000 in
theorem c_Block_roomLeft (l : Launch) (D : va_G) (Dt : Nat → ClassId) (b sz : Nat) (I : dz_Hp) (i : Nat) (hi : i < 12) (k : Int) (hk : I (b + (82 + 4 * i)) 0 = k) (hk2 : 0 ≤ k ∧ k ≤ 3) (W : Int) (hW : 10 ≤ W ∧ W ≤ 40) (C : List (List Int)) (r : List Int) (LI : sp_L b i I (C ++ [r])) (hL : (C ++ [r]).length ≤ 200) (hf : (C ++ [r]).flatten.length ≤ 400) : ly_M l D Dt b sz y_Block_roomLeft b_Block_roomLeft 3 (some .int) 2 [.ref (b + (82 + 4 * i)), .int (dz_i W)] I (fun v I' => v = some (.int (dz_i (W - sp_ind k (C.length : Int) - (r.length : Int)))) ∧ I' = I) := by
  refine ly_enter R_Block (by decide) rfl (Nat.le_of_ble_eq_true rfl) (ly_cat _ 0 rfl) (fun κ x => ?_)
  have hN := ly_N x
  have hL9 : C.length + 1 ≤ 200 := by simpa using hL
  have hin := sp_ind_rng k (C.length : Int)
  show ly_V κ b sz I 0 [(0, .ref (b + (82 + 4 * i))), (1, .int (dz_i W))] []
  refine dz_aload_n x.1 0 d_Block_roomLeft_0 rfl rfl ?_
  refine dz_geti (z := (C.length : Int) + 1) x.1 (ly_Block b hi) fl_Block_35 d_Block_roomLeft_1 (by rw [LI.1]; simp) ?_
  refine dz_iconst x.1 d_Block_roomLeft_4 ?_
  refine dz_isub (z := (C.length : Int)) x.1 d_Block_roomLeft_5 (by omega) ?_
  refine dz_istore_n (ls' := [(0, .ref (b + (82 + 4 * i))), (1, .int (dz_i W)), (2, .int (dz_i (C.length : Int)))]) x.1 d_Block_roomLeft_6 rfl hN (by decide) rfl ?_
  refine dz_iload_n x.1 1 d_Block_roomLeft_7 rfl rfl ?_
  refine dz_aload_n x.1 0 d_Block_roomLeft_8 rfl rfl ?_
  refine dz_iload_n x.1 2 d_Block_roomLeft_9 rfl rfl ?_
  refine ly_callV (rest := [.int (dz_i W)]) x cl_Block_55 (c_Block_indentOf l D Dt b sz I i hi k hk hk2 (C.length : Int) (by omega)) (by decide) (ly_Block b hi) rfl rfl rfl rfl (Nat.le_of_ble_eq_true rfl) d_Block_roomLeft_10 (fun v I' hp10 => ?_)
  obtain ⟨rfl, hp10I⟩ := hp10
  have hp10I := hp10I.symm
  subst hp10I
  show ly_V κ b sz I 13 [(0, .ref (b + (82 + 4 * i))), (1, .int (dz_i W)), (2, .int (dz_i (C.length : Int)))] [.int (dz_i (sp_ind k (C.length : Int))), .int (dz_i W)]
  refine dz_isub (z := W - (sp_ind k (C.length : Int))) x.1 d_Block_roomLeft_13 (by omega) ?_
  refine dz_aload_n x.1 0 d_Block_roomLeft_14 rfl rfl ?_
  refine dz_iload_n x.1 2 d_Block_roomLeft_15 rfl rfl ?_
  refine ly_callV (rest := [.int (dz_i (W - (sp_ind k (C.length : Int))))]) x cl_Block_58 (c_lenLast l D Dt b sz I i hi C r LI hL hf) (by decide) (ly_Block b hi) rfl rfl rfl rfl (Nat.le_of_ble_eq_true rfl) d_Block_roomLeft_16 (fun v I' hp16 => ?_)
  obtain ⟨rfl, hp16I⟩ := hp16
  have hp16I := hp16I.symm
  subst hp16I
  show ly_V κ b sz I 19 [(0, .ref (b + (82 + 4 * i))), (1, .int (dz_i W)), (2, .int (dz_i (C.length : Int)))] [.int (dz_i (r.length : Int)), .int (dz_i (W - (sp_ind k (C.length : Int))))]
  refine dz_isub (z := W - (sp_ind k (C.length : Int)) - (r.length : Int)) x.1 d_Block_roomLeft_19 (by omega) ?_
  exact ly_iret x d_Block_roomLeft_20 rfl ⟨rfl, rfl⟩
set_option maxRecDepth 100000 in
set_option maxHeartbeats 4000000 in
theorem c_Block_layPiece (l : Launch) (D : va_G) (Dt : Nat → ClassId) (b sz : Nat) (I : dz_Hp) (i : Nat) (hi : i < 12) (k : Int) (hk : I (b + (82 + 4 * i)) 0 = k) (hk2 : 0 ≤ k ∧ k ≤ 3) (W : Int) (hW : 10 ≤ W ∧ W ≤ 40) (m : Int) (h : Int → Int) (BI : sp_B b i I m h) (h0 : h (-1) = 0) (f t : Nat) (hf : (f : Int) < m) (hf1 : ¬ h (f : Int) = 0) (hf0 : h ((f : Int) - 1) = 0) (ht : (t : Int) = sp_ep h f) (LI : sp_L b i I (sp_nl (sp_fd W k h f))) : ly_M l D Dt b sz y_Block_layPiece b_Block_layPiece 6 none 3 [.ref (b + (82 + 4 * i)), .int (dz_i (f : Int)), .int (dz_i (t : Int)), .int (dz_i W)] I (fun v I' => v = none ∧ sp_fr I I' (fun q => q = b + (82 + 4 * i) ∨ q = b + (84 + 4 * i) ∨ q = b + (85 + 4 * i)) ∧ (∀ q : Int, q ≠ 4 → q ≠ 6 → I' (b + (82 + 4 * i)) q = I (b + (82 + 4 * i)) q) ∧ sp_L b i I' (sp_nl (sp_fd W k h t))) := by
  refine ly_enter R_Block (by decide) rfl (Nat.le_of_ble_eq_true rfl) (ly_cat _ 0 rfl) (fun κ x => ?_)
  have hN := ly_N x
  have hm9 := BI.2.1
  obtain ⟨e1, e2, e3, e4⟩ := sp_run_spec (sp_nb h) 300 (f : Int)
  change (f : Int) ≤ sp_ep h f at e1
  have e5 : sp_ep h f ≤ m := by
    by_cases hc : sp_ep h f ≤ m
    · exact hc
    · have h9 := e3 m (by omega) (by show m < sp_ep h f; omega)
      exact absurd (BI.out (j := m) (by omega)) (of_decide_eq_true h9)
  have e6 : (f : Int) < sp_ep h f := by
    by_cases hc : (f : Int) < sp_ep h f
    · exact hc
    · have q2 : sp_ep h f = f := by omega
      rcases e4 with e4 | e4
      · change sp_ep h f = _ at e4; omega
      · change sp_nb h (sp_ep h f) = false at e4
        rw [q2] at e4; exact absurd hf1 (of_decide_eq_false e4)
  have FI : sp_fr I I (fun q => q = b + (82 + 4 * i) ∨ q = b + (84 + 4 * i) ∨ q = b + (85 + 4 * i)) := sp_fr.rf
  have AI : ∀ q : Int, q ≠ 4 → q ≠ 6 → I (b + (82 + 4 * i)) q = I (b + (82 + 4 * i)) q := fun q _ _ => rfl
  obtain ⟨i1, i2, i3, i4, i5, i6, i7⟩ := sp_fd_inv (k := k) hW.1 h h0 f
  have ew : sp_nb h = fun j => decide (¬ h j = 0) := rfl
  have hstep : sp_fd W k h (f + 1) = sp_st W k h (f : Int) (sp_fd W k h f) := rfl
  obtain ⟨S0, hS0⟩ : ∃ S0, S0 = sp_fd W k h f := ⟨_, rfl⟩
  rw [← hS0] at LI i1 i2 i3 i4 i5 i6 i7 hstep
  obtain ⟨C0, r0⟩ := S0
  simp only at i1 i2 i3 i4 i5 i6 i7
  simp only [sp_tot] at i1 i2
  have hne := sp_ne_len C0 i3
  have loop : ∀ (k9 : Nat) (q : Nat) (C : List (List Int)) (r : List Int) (J : dz_Hp) (fl9 : Int), (f ≤ q ∧ q + k9 = t) → (sp_fr I J (fun q => q = b + (82 + 4 * i) ∨ q = b + (84 + 4 * i) ∨ q = b + (85 + 4 * i))) → (∀ q : Int, q ≠ 4 → q ≠ 6 → J (b + (82 + 4 * i)) q = I (b + (82 + 4 * i)) q) → (sp_L b i J (C ++ [r])) → (C.flatten.length + r.length ≤ q) → (C.length ≤ C.flatten.length) → (q < t → sp_ct W k C r (h (q : Int)) = sp_fd W k h (q + 1)) → (q = t → (C, r) = sp_fd W k h t ∧ ¬ r = []) → ly_V κ b sz J 47 [(0, .ref (b + (82 + 4 * i))), (1, .int (dz_i (f : Int))), (2, .int (dz_i (t : Int))), (3, .int (dz_i W)), (4, .int (dz_i fl9)), (5, .int (dz_i (q : Int)))] [] := by
    intro k9
    induction k9 with
    | zero =>
      intro q C r J fl9 hq FJ AJ LJ hB1 hB2 hs1 hs2
      refine dz_iload x.1 5 d_Block_layPiece_47 rfl ?_
      refine dz_iload_n x.1 2 d_Block_layPiece_49 rfl rfl ?_
      refine dz_icmp_ge (tgt := 81) x.1 d_Block_layPiece_50 (by decide) (by omega) (by omega) (fun hc50 => ?_) (fun hc50 => by exfalso; omega)
      exact ly_vret x d_Block_layPiece_81 ⟨rfl, FJ, AJ, by rw [← (hs2 (by omega)).1]; rw [show sp_nl (C, r) = C ++ [r] from if_neg (hs2 (by omega)).2]; exact LJ⟩
    | succ k9 ih =>
      intro q C r J fl9 hq FJ AJ LJ hB1 hB2 hs1 hs2
      have BJ : sp_B b i J m h := ⟨by rw [AJ 2 (by decide) (by decide)]; exact BI.1, BI.2.1, by rw [FJ _ (fun h => by rcases h with h | h | h <;> omega)]; exact BI.2.2.1, by rw [FJ _ (fun h => by rcases h with h | h | h <;> omega)]; exact BI.2.2.2⟩
      have hin := sp_ind_rng k (C.length : Int)
      refine dz_iload x.1 5 d_Block_layPiece_47 rfl ?_
      refine dz_iload_n x.1 2 d_Block_layPiece_49 rfl rfl ?_
      refine dz_icmp_ge (tgt := 81) x.1 d_Block_layPiece_50 (by decide) (by omega) (by omega) (fun hc50 => by exfalso; omega) (fun hc50 => ?_)
      refine dz_aload_n x.1 0 d_Block_layPiece_53 rfl rfl ?_
      refine dz_iload_n x.1 3 d_Block_layPiece_54 rfl rfl ?_
      refine ly_callV (rest := []) x cl_Block_45 (c_Block_roomLeft l D Dt b sz J i hi k (by rw [AJ 0 (by decide) (by decide)]; exact hk) hk2 W hW (C) (r) LJ (by simp only [List.length_append, List.length_cons, List.length_nil]; omega) (by simp only [List.flatten_append, List.flatten_cons, List.flatten_nil, List.length_append, List.length_cons, List.length_nil, List.append_nil]; omega)) (by decide) (ly_Block b hi) rfl rfl rfl rfl (Nat.le_of_ble_eq_true rfl) d_Block_layPiece_55 (fun v I' hp55 => ?_)
      obtain ⟨rfl, hp55I⟩ := hp55
      have hp55I := hp55I.symm
      subst hp55I
      show ly_V κ b sz J 58 [(0, .ref (b + (82 + 4 * i))), (1, .int (dz_i (f : Int))), (2, .int (dz_i (t : Int))), (3, .int (dz_i W)), (4, .int (dz_i fl9)), (5, .int (dz_i (q : Int)))] [.int (dz_i (W - (sp_ind k (C.length : Int)) - (r.length : Int)))]
      refine dz_if_gt (tgt := 65) x.1 d_Block_layPiece_58 (by decide) (by omega) (fun hc58 => ?_) (fun hc58 => ?_)
      · have ect : sp_ct W k C r (h (q : Int)) = (C, r ++ [h (q : Int)]) := if_pos (by omega)
        refine dz_aload_n x.1 0 d_Block_layPiece_65 rfl rfl ?_
        refine dz_aload_n x.1 0 d_Block_layPiece_66 rfl rfl ?_
        refine dz_iload x.1 5 d_Block_layPiece_67 rfl ?_
        refine ly_callV (rest := [.ref (b + (82 + 4 * i))]) x cl_Block_28 (c_caAt l D Dt b sz J i hi m h (BJ) (q : Int) (by omega)) (by decide) (ly_Block b hi) rfl rfl rfl rfl (Nat.le_of_ble_eq_true rfl) d_Block_layPiece_69 (fun v I' hp69 => ?_)
        obtain ⟨rfl, hp69I⟩ := hp69
        have hp69I := hp69I.symm
        subst hp69I
        show ly_V κ b sz J 72 [(0, .ref (b + (82 + 4 * i))), (1, .int (dz_i (f : Int))), (2, .int (dz_i (t : Int))), (3, .int (dz_i W)), (4, .int (dz_i fl9)), (5, .int (dz_i (q : Int)))] [.int (dz_i (h (q : Int))), .ref (b + (82 + 4 * i))]
        refine ly_callV (rest := []) x cl_Block_48 (c_Block_layCell l D Dt b sz J i hi (C) (r) LJ (by simp only [List.flatten_append, List.flatten_cons, List.flatten_nil, List.length_append, List.length_cons, List.length_nil, List.append_nil]; omega) (h (q : Int))) (by decide) (ly_Block b hi) rfl rfl rfl rfl (Nat.le_of_ble_eq_true rfl) d_Block_layPiece_72 (fun v J72 hp72 => ?_)
        obtain ⟨rfl, hFJ72, hAJ72, LJ72⟩ := hp72
        have FJ72 : sp_fr I J72 (fun q => q = b + (82 + 4 * i) ∨ q = b + (84 + 4 * i) ∨ q = b + (85 + 4 * i)) := FJ.tr hFJ72 (fun q h => by rcases h with h | h; exact Or.inl h; exact Or.inr (Or.inl h))
        have AJ72 : ∀ q : Int, q ≠ 4 → q ≠ 6 → J72 (b + (82 + 4 * i)) q = I (b + (82 + 4 * i)) q := fun q h1 h2 => (hAJ72 q h1).trans (AJ q h1 h2)
        show ly_V κ b sz J72 75 [(0, .ref (b + (82 + 4 * i))), (1, .int (dz_i (f : Int))), (2, .int (dz_i (t : Int))), (3, .int (dz_i W)), (4, .int (dz_i fl9)), (5, .int (dz_i (q : Int)))] []
        refine dz_iinc (z := (q : Int) + 1) (ls' := [(0, .ref (b + (82 + 4 * i))), (1, .int (dz_i (f : Int))), (2, .int (dz_i (t : Int))), (3, .int (dz_i W)), (4, .int (dz_i fl9)), (5, .int (dz_i ((q : Int) + 1)))]) x.1 5 d_Block_layPiece_75 rfl hN (by decide) (by omega) rfl ?_
        refine dz_goto (tgt := 47) x.1 d_Block_layPiece_78 (by decide) ?_
        have hs3 := hs1 (by omega)
        rw [ect] at hs3
        have hs4 : q + 1 < t → sp_ct W k (C) (r ++ [h (q : Int)]) (h ((q + 1 : Nat) : Int)) = sp_fd W k h (q + 1 + 1) := by
          intro hq2
          have h8 := of_decide_eq_true (e3 ((q + 1 : Nat) : Int) (by omega) (by show _ < sp_ep h f; omega))
          have h7 := of_decide_eq_true (e3 (q : Int) (by omega) (by show _ < sp_ep h f; omega))
          have h6 : sp_fd W k h (q + 1 + 1) = sp_st W k h ((q + 1 : Nat) : Int) (sp_fd W k h (q + 1)) := rfl
          rw [h6, ← hs3, sp_st_in h8 (by rw [show ((q + 1 : Nat) : Int) - 1 = (q : Int) by omega]; exact h7)]
        have h9 := ih (q + 1) (C) (r ++ [h (q : Int)]) J72 fl9 (by omega) FJ72 AJ72 LJ72 (by simp only [List.flatten_append, List.flatten_cons, List.flatten_nil, List.length_append, List.length_cons, List.length_nil, List.append_nil]; omega) (by exact hB2) hs4 (fun hq2 => ⟨by rw [← hq2]; exact hs3, by simp⟩)
        rw [show ((q + 1 : Nat) : Int) = (q : Int) + 1 by omega] at h9
        exact h9
      · refine dz_aload_n x.1 0 d_Block_layPiece_61 rfl rfl ?_
        refine ly_callV (rest := []) x cl_Block_52 (c_Block_beginLine l D Dt b sz J i hi (C ++ [r]) LJ (by simp only [List.length_append, List.length_cons, List.length_nil]; omega)) (by decide) (ly_Block b hi) rfl rfl rfl rfl (Nat.le_of_ble_eq_true rfl) d_Block_layPiece_62 (fun v J62 hp62 => ?_)
        obtain ⟨rfl, hFJ62, hAJ62, LJ62⟩ := hp62
        have FJ62 : sp_fr I J62 (fun q => q = b + (82 + 4 * i) ∨ q = b + (84 + 4 * i) ∨ q = b + (85 + 4 * i)) := FJ.tr hFJ62 (fun q h => by rcases h with h | h; exact Or.inl h; exact Or.inr (Or.inr h))
        have AJ62 : ∀ q : Int, q ≠ 4 → q ≠ 6 → J62 (b + (82 + 4 * i)) q = I (b + (82 + 4 * i)) q := fun q h1 h2 => (hAJ62 q h2).trans (AJ q h1 h2)
        show ly_V κ b sz J62 65 [(0, .ref (b + (82 + 4 * i))), (1, .int (dz_i (f : Int))), (2, .int (dz_i (t : Int))), (3, .int (dz_i W)), (4, .int (dz_i fl9)), (5, .int (dz_i (q : Int)))] []
        have ect : sp_ct W k C r (h (q : Int)) = (C ++ [r], [h (q : Int)]) := if_neg (by omega)
        refine dz_aload_n x.1 0 d_Block_layPiece_65 rfl rfl ?_
        refine dz_aload_n x.1 0 d_Block_layPiece_66 rfl rfl ?_
        refine dz_iload x.1 5 d_Block_layPiece_67 rfl ?_
        refine ly_callV (rest := [.ref (b + (82 + 4 * i))]) x cl_Block_28 (c_caAt l D Dt b sz J62 i hi m h (⟨by rw [AJ62 2 (by decide) (by decide)]; exact BI.1, BI.2.1, by rw [FJ62 _ (fun h => by rcases h with h | h | h <;> omega)]; exact BI.2.2.1, by rw [FJ62 _ (fun h => by rcases h with h | h | h <;> omega)]; exact BI.2.2.2⟩) (q : Int) (by omega)) (by decide) (ly_Block b hi) rfl rfl rfl rfl (Nat.le_of_ble_eq_true rfl) d_Block_layPiece_69 (fun v I' hp69 => ?_)
        obtain ⟨rfl, hp69I⟩ := hp69
        have hp69I := hp69I.symm
        subst hp69I
        show ly_V κ b sz J62 72 [(0, .ref (b + (82 + 4 * i))), (1, .int (dz_i (f : Int))), (2, .int (dz_i (t : Int))), (3, .int (dz_i W)), (4, .int (dz_i fl9)), (5, .int (dz_i (q : Int)))] [.int (dz_i (h (q : Int))), .ref (b + (82 + 4 * i))]
        refine ly_callV (rest := []) x cl_Block_48 (c_Block_layCell l D Dt b sz J62 i hi (C ++ [r]) ([]) LJ62 (by simp only [List.flatten_append, List.flatten_cons, List.flatten_nil, List.length_append, List.length_cons, List.length_nil, List.append_nil]; omega) (h (q : Int))) (by decide) (ly_Block b hi) rfl rfl rfl rfl (Nat.le_of_ble_eq_true rfl) d_Block_layPiece_72 (fun v J72 hp72 => ?_)
        obtain ⟨rfl, hFJ72, hAJ72, LJ72⟩ := hp72
        have FJ72 : sp_fr I J72 (fun q => q = b + (82 + 4 * i) ∨ q = b + (84 + 4 * i) ∨ q = b + (85 + 4 * i)) := FJ62.tr hFJ72 (fun q h => by rcases h with h | h; exact Or.inl h; exact Or.inr (Or.inl h))
        have AJ72 : ∀ q : Int, q ≠ 4 → q ≠ 6 → J72 (b + (82 + 4 * i)) q = I (b + (82 + 4 * i)) q := fun q h1 h2 => (hAJ72 q h1).trans (AJ62 q h1 h2)
        show ly_V κ b sz J72 75 [(0, .ref (b + (82 + 4 * i))), (1, .int (dz_i (f : Int))), (2, .int (dz_i (t : Int))), (3, .int (dz_i W)), (4, .int (dz_i fl9)), (5, .int (dz_i (q : Int)))] []
        refine dz_iinc (z := (q : Int) + 1) (ls' := [(0, .ref (b + (82 + 4 * i))), (1, .int (dz_i (f : Int))), (2, .int (dz_i (t : Int))), (3, .int (dz_i W)), (4, .int (dz_i fl9)), (5, .int (dz_i ((q : Int) + 1)))]) x.1 5 d_Block_layPiece_75 rfl hN (by decide) (by omega) rfl ?_
        refine dz_goto (tgt := 47) x.1 d_Block_layPiece_78 (by decide) ?_
        have hs3 := hs1 (by omega)
        rw [ect] at hs3
        have hs4 : q + 1 < t → sp_ct W k (C ++ [r]) ([] ++ [h (q : Int)]) (h ((q + 1 : Nat) : Int)) = sp_fd W k h (q + 1 + 1) := by
          intro hq2
          have h8 := of_decide_eq_true (e3 ((q + 1 : Nat) : Int) (by omega) (by show _ < sp_ep h f; omega))
          have h7 := of_decide_eq_true (e3 (q : Int) (by omega) (by show _ < sp_ep h f; omega))
          have h6 : sp_fd W k h (q + 1 + 1) = sp_st W k h ((q + 1 : Nat) : Int) (sp_fd W k h (q + 1)) := rfl
          rw [h6, ← hs3, sp_st_in h8 (by rw [show ((q + 1 : Nat) : Int) - 1 = (q : Int) by omega]; exact h7)]
          rfl
        have h9 := ih (q + 1) (C ++ [r]) ([] ++ [h (q : Int)]) J72 fl9 (by omega) FJ72 AJ72 LJ72 (by simp only [List.flatten_append, List.flatten_cons, List.flatten_nil, List.length_append, List.length_cons, List.length_nil, List.append_nil]; omega) (by simp only [List.flatten_append, List.flatten_cons, List.flatten_nil, List.length_append, List.length_cons, List.length_nil, List.append_nil]; have hrr : 0 < r.length := (by have := sp_ind_rng k (C.length : Int); omega); omega) hs4 (fun hq2 => ⟨by rw [← hq2]; exact hs3, by simp⟩)
        rw [show ((q + 1 : Nat) : Int) = (q : Int) + 1 by omega] at h9
        exact h9
  have hnl1 : (sp_nl (C0, r0)).length ≤ (sp_nl (C0, r0)).flatten.length := by
    by_cases hz : r0 = []
    · rw [show sp_nl (C0, r0) = C0 from if_pos hz]; exact hne
    · rw [show sp_nl (C0, r0) = C0 ++ [r0] from if_neg hz]
      have := List.length_pos_iff.mpr hz
      simp only [List.flatten_append, List.flatten_cons, List.flatten_nil, List.length_append, List.length_cons, List.length_nil, List.append_nil]; omega
  have hnl2 : (sp_nl (C0, r0)).flatten.length + 0 ≤ f := by
    by_cases hz : r0 = []
    · rw [show sp_nl (C0, r0) = C0 from if_pos hz]; omega
    · rw [show sp_nl (C0, r0) = C0 ++ [r0] from if_neg hz]
      simp only [List.flatten_append, List.flatten_cons, List.flatten_nil, List.length_append, List.length_cons, List.length_nil, List.append_nil]; omega
  show ly_V κ b sz I 0 [(0, .ref (b + (82 + 4 * i))), (1, .int (dz_i (f : Int))), (2, .int (dz_i (t : Int))), (3, .int (dz_i W))] []
  refine dz_aload_n x.1 0 d_Block_layPiece_0 rfl rfl ?_
  refine dz_geti (z := ((sp_nl (C0, r0)).length : Int)) x.1 (ly_Block b hi) fl_Block_35 d_Block_layPiece_1 LI.1 ?_
  refine dz_if_le (tgt := 24) x.1 d_Block_layPiece_4 (by decide) (by omega) (fun hc4 => ?_) (fun hc4 => ?_)
  · refine dz_iconst x.1 d_Block_layPiece_24 ?_
    refine dz_istore (ls' := [(0, .ref (b + (82 + 4 * i))), (1, .int (dz_i (f : Int))), (2, .int (dz_i (t : Int))), (3, .int (dz_i W)), (4, .int (dz_i 0))]) x.1 d_Block_layPiece_25 hN (by decide) rfl ?_
    refine dz_iload x.1 4 d_Block_layPiece_27 rfl ?_
    refine dz_if_eq (tgt := 40) x.1 d_Block_layPiece_29 (by decide) (by omega) (fun hc29 => ?_) (fun hc29 => by exfalso; omega)
    refine dz_aload_n x.1 0 d_Block_layPiece_40 rfl rfl ?_
    refine ly_callV (rest := []) x cl_Block_52 (c_Block_beginLine l D Dt b sz I i hi (sp_nl (C0, r0)) LI (by omega)) (by decide) (ly_Block b hi) rfl rfl rfl rfl (Nat.le_of_ble_eq_true rfl) d_Block_layPiece_41 (fun v J41 hp41 => ?_)
    obtain ⟨rfl, hFJ41, hAJ41, LJ41⟩ := hp41
    have FJ41 : sp_fr I J41 (fun q => q = b + (82 + 4 * i) ∨ q = b + (84 + 4 * i) ∨ q = b + (85 + 4 * i)) := FI.tr hFJ41 (fun q h => by rcases h with h | h; exact Or.inl h; exact Or.inr (Or.inr h))
    have AJ41 : ∀ q : Int, q ≠ 4 → q ≠ 6 → J41 (b + (82 + 4 * i)) q = I (b + (82 + 4 * i)) q := fun q h1 h2 => (hAJ41 q h2).trans (AI q h1 h2)
    show ly_V κ b sz J41 44 [(0, .ref (b + (82 + 4 * i))), (1, .int (dz_i (f : Int))), (2, .int (dz_i (t : Int))), (3, .int (dz_i W)), (4, .int (dz_i 0))] []
    refine dz_iload_n x.1 1 d_Block_layPiece_44 rfl rfl ?_
    refine dz_istore (ls' := [(0, .ref (b + (82 + 4 * i))), (1, .int (dz_i (f : Int))), (2, .int (dz_i (t : Int))), (3, .int (dz_i W)), (4, .int (dz_i 0)), (5, .int (dz_i (f : Int)))]) x.1 d_Block_layPiece_45 hN (by decide) rfl ?_
    have c2 : ¬ (¬ r0 = [] ∧ (r0.length : Int) + 1 + (sp_ep h f - f) ≤ W - sp_ind k (C0.length : Int)) := by
      intro hz
      first
        | (rw [show sp_nl (C0, r0) = C0 ++ [r0] from if_neg hz.1] at hc4; simp at hc4; omega)
        | omega
    have hin2 := sp_ind_rng k ((sp_nl (C0, r0)).length : Int)
    have hst : sp_ct W k (sp_nl (C0, r0)) [] (h (f : Int)) = sp_fd W k h (f + 1) := by
      rw [hstep]
      unfold sp_ct sp_st
      rw [if_neg hf1, if_pos hf0, if_neg c2, if_pos (by simp only [List.length_nil]; omega)]; rfl
    exact loop (t - f) f (sp_nl (C0, r0)) [] J41 0 (by omega) FJ41 AJ41 LJ41 (by simp only [List.length_nil]; exact hnl2) hnl1 (fun _ => hst) (fun h9 => by omega)
  · have hr0 : ¬ r0 = [] := by intro hz; have hz2 := i4 hz; rw [hz, hz2] at hc4; simp [sp_nl] at hc4
    have enl : sp_nl (C0, r0) = C0 ++ [r0] := if_neg hr0
    have hLr : sp_L b i I (C0 ++ [r0]) := by rw [← enl]; exact LI
    have hb1 := i2 hf0 hr0
    have hin := sp_ind_rng k (C0.length : Int)
    have hrl : 0 < r0.length := List.length_pos_iff.mpr hr0
    refine dz_aload_n x.1 0 d_Block_layPiece_7 rfl rfl ?_
    refine dz_iload_n x.1 3 d_Block_layPiece_8 rfl rfl ?_
    refine ly_callV (rest := []) x cl_Block_45 (c_Block_roomLeft l D Dt b sz I i hi k (by rw [AI 0 (by decide) (by decide)]; exact hk) hk2 W hW (C0) (r0) hLr (by simp only [List.length_append, List.length_cons, List.length_nil]; omega) (by simp only [List.flatten_append, List.flatten_cons, List.flatten_nil, List.length_append, List.length_cons, List.length_nil, List.append_nil]; omega)) (by decide) (ly_Block b hi) rfl rfl rfl rfl (Nat.le_of_ble_eq_true rfl) d_Block_layPiece_9 (fun v I' hp9 => ?_)
    obtain ⟨rfl, hp9I⟩ := hp9
    have hp9I := hp9I.symm
    subst hp9I
    show ly_V κ b sz I 12 [(0, .ref (b + (82 + 4 * i))), (1, .int (dz_i (f : Int))), (2, .int (dz_i (t : Int))), (3, .int (dz_i W))] [.int (dz_i (W - (sp_ind k (C0.length : Int)) - (r0.length : Int)))]
    refine dz_iconst x.1 d_Block_layPiece_12 ?_
    refine dz_iload_n x.1 2 d_Block_layPiece_13 rfl rfl ?_
    refine dz_iadd (z := (t : Int) + 1) x.1 d_Block_layPiece_14 (by omega) ?_
    refine dz_iload_n x.1 1 d_Block_layPiece_15 rfl rfl ?_
    refine dz_isub (z := (t : Int) - (f : Int) + 1) x.1 d_Block_layPiece_16 (by omega) ?_
    refine dz_icmp_lt (tgt := 24) x.1 d_Block_layPiece_17 (by decide) (by omega) (by omega) (fun hc17 => ?_) (fun hc17 => ?_)
    · refine dz_iconst x.1 d_Block_layPiece_24 ?_
      refine dz_istore (ls' := [(0, .ref (b + (82 + 4 * i))), (1, .int (dz_i (f : Int))), (2, .int (dz_i (t : Int))), (3, .int (dz_i W)), (4, .int (dz_i 0))]) x.1 d_Block_layPiece_25 hN (by decide) rfl ?_
      refine dz_iload x.1 4 d_Block_layPiece_27 rfl ?_
      refine dz_if_eq (tgt := 40) x.1 d_Block_layPiece_29 (by decide) (by omega) (fun hc29 => ?_) (fun hc29 => by exfalso; omega)
      refine dz_aload_n x.1 0 d_Block_layPiece_40 rfl rfl ?_
      refine ly_callV (rest := []) x cl_Block_52 (c_Block_beginLine l D Dt b sz I i hi (sp_nl (C0, r0)) LI (by omega)) (by decide) (ly_Block b hi) rfl rfl rfl rfl (Nat.le_of_ble_eq_true rfl) d_Block_layPiece_41 (fun v J41 hp41 => ?_)
      obtain ⟨rfl, hFJ41, hAJ41, LJ41⟩ := hp41
      have FJ41 : sp_fr I J41 (fun q => q = b + (82 + 4 * i) ∨ q = b + (84 + 4 * i) ∨ q = b + (85 + 4 * i)) := FI.tr hFJ41 (fun q h => by rcases h with h | h; exact Or.inl h; exact Or.inr (Or.inr h))
      have AJ41 : ∀ q : Int, q ≠ 4 → q ≠ 6 → J41 (b + (82 + 4 * i)) q = I (b + (82 + 4 * i)) q := fun q h1 h2 => (hAJ41 q h2).trans (AI q h1 h2)
      show ly_V κ b sz J41 44 [(0, .ref (b + (82 + 4 * i))), (1, .int (dz_i (f : Int))), (2, .int (dz_i (t : Int))), (3, .int (dz_i W)), (4, .int (dz_i 0))] []
      refine dz_iload_n x.1 1 d_Block_layPiece_44 rfl rfl ?_
      refine dz_istore (ls' := [(0, .ref (b + (82 + 4 * i))), (1, .int (dz_i (f : Int))), (2, .int (dz_i (t : Int))), (3, .int (dz_i W)), (4, .int (dz_i 0)), (5, .int (dz_i (f : Int)))]) x.1 d_Block_layPiece_45 hN (by decide) rfl ?_
      have c2 : ¬ (¬ r0 = [] ∧ (r0.length : Int) + 1 + (sp_ep h f - f) ≤ W - sp_ind k (C0.length : Int)) := by
        intro hz
        first
          | (rw [show sp_nl (C0, r0) = C0 ++ [r0] from if_neg hz.1] at hc4; simp at hc4; omega)
          | omega
      have hin2 := sp_ind_rng k ((sp_nl (C0, r0)).length : Int)
      have hst : sp_ct W k (sp_nl (C0, r0)) [] (h (f : Int)) = sp_fd W k h (f + 1) := by
        rw [hstep]
        unfold sp_ct sp_st
        rw [if_neg hf1, if_pos hf0, if_neg c2, if_pos (by simp only [List.length_nil]; omega)]; rfl
      exact loop (t - f) f (sp_nl (C0, r0)) [] J41 0 (by omega) FJ41 AJ41 LJ41 (by simp only [List.length_nil]; exact hnl2) hnl1 (fun _ => hst) (fun h9 => by omega)
    · refine dz_iconst x.1 d_Block_layPiece_20 ?_
      refine dz_goto (tgt := 25) x.1 d_Block_layPiece_21 (by decide) ?_
      refine dz_istore (ls' := [(0, .ref (b + (82 + 4 * i))), (1, .int (dz_i (f : Int))), (2, .int (dz_i (t : Int))), (3, .int (dz_i W)), (4, .int (dz_i 1))]) x.1 d_Block_layPiece_25 hN (by decide) rfl ?_
      refine dz_iload x.1 4 d_Block_layPiece_27 rfl ?_
      refine dz_if_eq (tgt := 40) x.1 d_Block_layPiece_29 (by decide) (by omega) (fun hc29 => by exfalso; omega) (fun hc29 => ?_)
      refine dz_aload_n x.1 0 d_Block_layPiece_32 rfl rfl ?_
      refine dz_iconst x.1 d_Block_layPiece_33 ?_
      refine ly_callV (rest := []) x cl_Block_48 (c_Block_layCell l D Dt b sz I i hi (C0) (r0) hLr (by simp only [List.flatten_append, List.flatten_cons, List.flatten_nil, List.length_append, List.length_cons, List.length_nil, List.append_nil]; omega) 0) (by decide) (ly_Block b hi) rfl rfl rfl rfl (Nat.le_of_ble_eq_true rfl) d_Block_layPiece_34 (fun v J34 hp34 => ?_)
      obtain ⟨rfl, hFJ34, hAJ34, LJ34⟩ := hp34
      have FJ34 : sp_fr I J34 (fun q => q = b + (82 + 4 * i) ∨ q = b + (84 + 4 * i) ∨ q = b + (85 + 4 * i)) := FI.tr hFJ34 (fun q h => by rcases h with h | h; exact Or.inl h; exact Or.inr (Or.inl h))
      have AJ34 : ∀ q : Int, q ≠ 4 → q ≠ 6 → J34 (b + (82 + 4 * i)) q = I (b + (82 + 4 * i)) q := fun q h1 h2 => (hAJ34 q h1).trans (AI q h1 h2)
      show ly_V κ b sz J34 37 [(0, .ref (b + (82 + 4 * i))), (1, .int (dz_i (f : Int))), (2, .int (dz_i (t : Int))), (3, .int (dz_i W)), (4, .int (dz_i 1))] []
      refine dz_goto (tgt := 44) x.1 d_Block_layPiece_37 (by decide) ?_
      refine dz_iload_n x.1 1 d_Block_layPiece_44 rfl rfl ?_
      refine dz_istore (ls' := [(0, .ref (b + (82 + 4 * i))), (1, .int (dz_i (f : Int))), (2, .int (dz_i (t : Int))), (3, .int (dz_i W)), (4, .int (dz_i 1)), (5, .int (dz_i (f : Int)))]) x.1 d_Block_layPiece_45 hN (by decide) rfl ?_
      have c2 : ¬ r0 = [] ∧ (r0.length : Int) + 1 + (sp_ep h f - f) ≤ W - sp_ind k (C0.length : Int) := ⟨hr0, by omega⟩
      have hst : sp_ct W k C0 (r0 ++ [0]) (h (f : Int)) = sp_fd W k h (f + 1) := by
        rw [hstep]
        unfold sp_ct sp_st
        rw [if_neg hf1, if_pos hf0, if_pos c2, if_pos (by simp only [List.length_append, List.length_cons, List.length_nil]; omega), List.append_assoc]; rfl
      exact loop (t - f) f C0 (r0 ++ [0]) J34 1 (by omega) FJ34 AJ34 LJ34 (by simp only [List.length_append, List.length_cons, List.length_nil]; omega) hne (fun _ => hst) (fun h9 => by omega)
def sp_pos (h : Int → Int) (q : Nat) : Nat := if h ((q : Int) - 1) = 0 then q else (sp_ep h (q : Int)).toNat
theorem sp_ep_0 {h : Int → Int} {q : Int} (h1 : h q = 0) : sp_ep h q = q := sp_run_eq (by omega) (by omega) (fun j h2 h3 => by omega) (Or.inr (decide_eq_false (fun z => z h1)))
theorem sp_ep_n {h : Int → Int} {q m : Int} (h1 : ¬ h q = 0) (hq : 0 ≤ q ∧ q < m ∧ m ≤ 200) (hm : ∀ j : Int, m ≤ j → h j = 0) : sp_ep h q = sp_ep h (q + 1) ∧ q < sp_ep h q ∧ sp_ep h q ≤ m := by
  obtain ⟨e1, e2, e3, e4⟩ := sp_run_spec (sp_nb h) 300 (q + 1)
  change q + 1 ≤ sp_ep h (q + 1) at e1
  have e5 : sp_ep h (q + 1) ≤ m := by
    by_cases hc : sp_ep h (q + 1) ≤ m
    · exact hc
    · have h9 := e3 m (by omega) (by show m < sp_ep h (q + 1); omega)
      exact absurd (hm m (by omega)) (of_decide_eq_true h9)
  have e : sp_ep h q = sp_ep h (q + 1) := by
    refine sp_run_eq (by omega) (by omega) (fun j h2 h3 => ?_) ?_
    · by_cases ej : j = q
      · rw [ej]; exact decide_eq_true h1
      · exact e3 j (by omega) h3
    · rcases e4 with e4 | e4
      · change sp_ep h (q + 1) = _ at e4; omega
      · right; exact e4
  omega
theorem sp_pos_0 {W k : Int} {h : Int → Int} {q : Nat} (h1 : h (q : Int) = 0) : sp_fd W k h (sp_pos h (q + 1)) = sp_fd W k h (sp_pos h q) := by
  have e1 : sp_pos h (q + 1) = q + 1 := by unfold sp_pos; rw [show ((q + 1 : Nat) : Int) - 1 = (q : Int) by omega]; exact if_pos h1
  have e2 : sp_pos h q = q := by
    unfold sp_pos
    split
    · rfl
    · rw [sp_ep_0 h1]; omega
  rw [e1, e2]
  show sp_st W k h (q : Int) _ = _
  unfold sp_st; rw [if_pos h1]
set_option maxRecDepth 100000 in
set_option maxHeartbeats 4000000 in
theorem c_Block_cutIntoLines (l : Launch) (D : va_G) (Dt : Nat → ClassId) (b sz : Nat) (I : dz_Hp) (i : Nat) (hi : i < 12) (k : Int) (hk : I (b + (82 + 4 * i)) 0 = k) (hk2 : 0 ≤ k ∧ k ≤ 3) (W : Int) (hW : 10 ≤ W ∧ W ≤ 40) (m : Int) (h : Int → Int) (BI : sp_B b i I m h) (h0 : h (-1) = 0)  : ly_M l D Dt b sz y_Block_cutIntoLines b_Block_cutIntoLines 3 none 4 [.ref (b + (82 + 4 * i)), .int (dz_i W)] I (fun v I' => v = none ∧ sp_fr I I' (fun q => q = b + (82 + 4 * i) ∨ q = b + (84 + 4 * i) ∨ q = b + (85 + 4 * i)) ∧ (∀ q : Int, q ≠ 4 → q ≠ 6 → I' (b + (82 + 4 * i)) q = I (b + (82 + 4 * i)) q) ∧ sp_L b i I' (sp_nl (sp_fd W k h m.toNat))) := by
  refine ly_enter R_Block (by decide) rfl (Nat.le_of_ble_eq_true rfl) (ly_cat _ 0 rfl) (fun κ x => ?_)
  have hN := ly_N x
  have hm9 := BI.2.1
  have loop : ∀ (k9 : Nat) (q : Nat) (J : dz_Hp), ((q : Int) + (k9 : Int) = m) → (sp_fr I J (fun q => q = b + (82 + 4 * i) ∨ q = b + (84 + 4 * i) ∨ q = b + (85 + 4 * i))) → (∀ q : Int, q ≠ 4 → q ≠ 6 → J (b + (82 + 4 * i)) q = I (b + (82 + 4 * i)) q) → (sp_L b i J (sp_nl (sp_fd W k h (sp_pos h q)))) → ly_V κ b sz J 12 [(0, .ref (b + (82 + 4 * i))), (1, .int (dz_i W)), (2, .int (dz_i (q : Int)))] [] := by
    intro k9
    induction k9 with
    | zero =>
      intro q J hq FJ AJ LJ
      have BJ : sp_B b i J m h := ⟨by rw [AJ 2 (by decide) (by decide)]; exact BI.1, BI.2.1, by rw [FJ _ (fun h => by rcases h with h | h | h <;> omega)]; exact BI.2.2.1, by rw [FJ _ (fun h => by rcases h with h | h | h <;> omega)]; exact BI.2.2.2⟩
      have hpm : sp_pos h q = m.toNat := by
        unfold sp_pos
        split
        · omega
        · rw [sp_ep_0 (BI.out (by omega))]; omega
      refine dz_iload_n x.1 2 d_Block_cutIntoLines_12 rfl rfl ?_
      refine dz_aload_n x.1 0 d_Block_cutIntoLines_13 rfl rfl ?_
      refine dz_geti (z := m) x.1 (ly_Block b hi) fl_Block_25 d_Block_cutIntoLines_14 BJ.1 ?_
      refine dz_icmp_ge (tgt := 55) x.1 d_Block_cutIntoLines_17 (by decide) (by omega) (by omega) (fun hc17 => ?_) (fun hc17 => by exfalso; omega)
      exact ly_vret x d_Block_cutIntoLines_55 ⟨rfl, FJ, AJ, by rw [hpm] at LJ; exact LJ⟩
    | succ k9 ih =>
      intro q J hq FJ AJ LJ
      have BJ : sp_B b i J m h := ⟨by rw [AJ 2 (by decide) (by decide)]; exact BI.1, BI.2.1, by rw [FJ _ (fun h => by rcases h with h | h | h <;> omega)]; exact BI.2.2.1, by rw [FJ _ (fun h => by rcases h with h | h | h <;> omega)]; exact BI.2.2.2⟩
      refine dz_iload_n x.1 2 d_Block_cutIntoLines_12 rfl rfl ?_
      refine dz_aload_n x.1 0 d_Block_cutIntoLines_13 rfl rfl ?_
      refine dz_geti (z := m) x.1 (ly_Block b hi) fl_Block_25 d_Block_cutIntoLines_14 BJ.1 ?_
      refine dz_icmp_ge (tgt := 55) x.1 d_Block_cutIntoLines_17 (by decide) (by omega) (by omega) (fun hc17 => by exfalso; omega) (fun hc17 => ?_)
      have hr1 := BI.rng (q : Int)
      have hr2 := BI.rng ((q : Int) - 1)
      refine dz_aload_n x.1 0 d_Block_cutIntoLines_20 rfl rfl ?_
      refine dz_iload_n x.1 2 d_Block_cutIntoLines_21 rfl rfl ?_
      refine ly_callV (rest := []) x cl_Block_28 (c_caAt l D Dt b sz J i hi m h (BJ) (q : Int) (by omega)) (by decide) (ly_Block b hi) rfl rfl rfl rfl (Nat.le_of_ble_eq_true rfl) d_Block_cutIntoLines_22 (fun v I' hp22 => ?_)
      obtain ⟨rfl, hp22I⟩ := hp22
      have hp22I := hp22I.symm
      subst hp22I
      show ly_V κ b sz J 25 [(0, .ref (b + (82 + 4 * i))), (1, .int (dz_i W)), (2, .int (dz_i (q : Int)))] [.int (dz_i (h (q : Int)))]
      refine dz_if_eq (tgt := 49) x.1 d_Block_cutIntoLines_25 (by decide) (by omega) (fun hc25 => ?_) (fun hc25 => ?_)
      · refine dz_iinc (z := (q : Int) + 1) (ls' := [(0, .ref (b + (82 + 4 * i))), (1, .int (dz_i W)), (2, .int (dz_i ((q : Int) + 1)))]) x.1 2 d_Block_cutIntoLines_49 rfl hN (by decide) (by omega) rfl ?_
        refine dz_goto (tgt := 12) x.1 d_Block_cutIntoLines_52 (by decide) ?_
        have e8 : sp_fd W k h (sp_pos h (q + 1)) = sp_fd W k h (sp_pos h q) := by
          first
            | exact sp_pos_0 hc25
            | (have hen := sp_ep_n (h := h) (q := (q : Int)) (m := m) hc25 (by omega) (fun j hj => BI.out (by omega))
               have e7 : sp_pos h (q + 1) = sp_pos h q := (by unfold sp_pos; rw [show ((q + 1 : Nat) : Int) - 1 = (q : Int) by omega, if_neg hc25, if_neg hc35, hen.1, show ((q + 1 : Nat) : Int) = (q : Int) + 1 by omega])
               rw [e7])
        have h9 := ih (q + 1) J (by omega) FJ AJ (by rw [e8]; exact LJ)
        rw [show ((q + 1 : Nat) : Int) = (q : Int) + 1 by omega] at h9
        exact h9
      · refine dz_aload_n x.1 0 d_Block_cutIntoLines_28 rfl rfl ?_
        refine dz_iload_n x.1 2 d_Block_cutIntoLines_29 rfl rfl ?_
        refine dz_iconst x.1 d_Block_cutIntoLines_30 ?_
        refine dz_isub (z := (q : Int) - 1) x.1 d_Block_cutIntoLines_31 (by omega) ?_
        refine ly_callV (rest := []) x cl_Block_28 (c_caAt l D Dt b sz J i hi m h (BJ) ((q : Int) - 1) (by omega)) (by decide) (ly_Block b hi) rfl rfl rfl rfl (Nat.le_of_ble_eq_true rfl) d_Block_cutIntoLines_32 (fun v I' hp32 => ?_)
        obtain ⟨rfl, hp32I⟩ := hp32
        have hp32I := hp32I.symm
        subst hp32I
        show ly_V κ b sz J 35 [(0, .ref (b + (82 + 4 * i))), (1, .int (dz_i W)), (2, .int (dz_i (q : Int)))] [.int (dz_i (h ((q : Int) - 1)))]
        refine dz_if_ne (tgt := 49) x.1 d_Block_cutIntoLines_35 (by decide) (by omega) (fun hc35 => ?_) (fun hc35 => ?_)
        · refine dz_iinc (z := (q : Int) + 1) (ls' := [(0, .ref (b + (82 + 4 * i))), (1, .int (dz_i W)), (2, .int (dz_i ((q : Int) + 1)))]) x.1 2 d_Block_cutIntoLines_49 rfl hN (by decide) (by omega) rfl ?_
          refine dz_goto (tgt := 12) x.1 d_Block_cutIntoLines_52 (by decide) ?_
          have e8 : sp_fd W k h (sp_pos h (q + 1)) = sp_fd W k h (sp_pos h q) := by
            first
              | exact sp_pos_0 hc25
              | (have hen := sp_ep_n (h := h) (q := (q : Int)) (m := m) hc25 (by omega) (fun j hj => BI.out (by omega))
                 have e7 : sp_pos h (q + 1) = sp_pos h q := (by unfold sp_pos; rw [show ((q + 1 : Nat) : Int) - 1 = (q : Int) by omega, if_neg hc25, if_neg hc35, hen.1, show ((q + 1 : Nat) : Int) = (q : Int) + 1 by omega])
                 rw [e7])
          have h9 := ih (q + 1) J (by omega) FJ AJ (by rw [e8]; exact LJ)
          rw [show ((q + 1 : Nat) : Int) = (q : Int) + 1 by omega] at h9
          exact h9
        · have hen0 := sp_ep_n (h := h) (q := (q : Int)) (m := m) hc25 (by omega) (fun j hj => BI.out (by omega))
          refine dz_aload_n x.1 0 d_Block_cutIntoLines_38 rfl rfl ?_
          refine dz_iload_n x.1 2 d_Block_cutIntoLines_39 rfl rfl ?_
          refine dz_aload_n x.1 0 d_Block_cutIntoLines_40 rfl rfl ?_
          refine dz_iload_n x.1 2 d_Block_cutIntoLines_41 rfl rfl ?_
          refine ly_callV (rest := [.int (dz_i (q : Int)), .ref (b + (82 + 4 * i))]) x cl_Block_38 (c_Block_endOfPiece l D Dt b sz J i hi m h BJ (q : Int) (by omega)) (by decide) (ly_Block b hi) rfl rfl rfl rfl (Nat.le_of_ble_eq_true rfl) d_Block_cutIntoLines_42 (fun v I' hp42 => ?_)
          obtain ⟨rfl, hp42I⟩ := hp42
          have hp42I := hp42I.symm
          subst hp42I
          show ly_V κ b sz J 45 [(0, .ref (b + (82 + 4 * i))), (1, .int (dz_i W)), (2, .int (dz_i (q : Int)))] [.int (dz_i (sp_ep h (q : Int))), .int (dz_i (q : Int)), .ref (b + (82 + 4 * i))]
          refine dz_iload_n x.1 1 d_Block_cutIntoLines_45 rfl rfl ?_
          refine ly_callV (rest := []) x cl_Block_41 (by have h9 := c_Block_layPiece l D Dt b sz J i hi k (by rw [AJ 0 (by decide) (by decide)]; exact hk) hk2 W hW m h BJ h0 q (sp_ep h (q : Int)).toNat (by omega) hc25 (by omega) (by omega) (by have e9 : sp_pos h q = q := if_pos (by omega); rw [e9] at LJ; exact LJ); rw [show (((sp_ep h (q : Int)).toNat : Nat) : Int) = sp_ep h (q : Int) by omega] at h9; exact h9) (by decide) (ly_Block b hi) rfl rfl rfl rfl (Nat.le_of_ble_eq_true rfl) d_Block_cutIntoLines_46 (fun v J46 hp46 => ?_)
          obtain ⟨rfl, hF46, hA46, hL46⟩ := hp46
          have FJ46 : sp_fr I J46 (fun q => q = b + (82 + 4 * i) ∨ q = b + (84 + 4 * i) ∨ q = b + (85 + 4 * i)) := FJ.tr hF46 (fun q h => h)
          have AJ46 : ∀ q : Int, q ≠ 4 → q ≠ 6 → J46 (b + (82 + 4 * i)) q = I (b + (82 + 4 * i)) q := fun q h1 h2 => (hA46 q h1 h2).trans (AJ q h1 h2)
          show ly_V κ b sz J46 49 [(0, .ref (b + (82 + 4 * i))), (1, .int (dz_i W)), (2, .int (dz_i (q : Int)))] []
          refine dz_iinc (z := (q : Int) + 1) (ls' := [(0, .ref (b + (82 + 4 * i))), (1, .int (dz_i W)), (2, .int (dz_i ((q : Int) + 1)))]) x.1 2 d_Block_cutIntoLines_49 rfl hN (by decide) (by omega) rfl ?_
          refine dz_goto (tgt := 12) x.1 d_Block_cutIntoLines_52 (by decide) ?_
          have hen := sp_ep_n (h := h) (q := (q : Int)) (m := m) hc25 (by omega) (fun j hj => BI.out (by omega))
          have e8 : sp_pos h (q + 1) = (sp_ep h (q : Int)).toNat := by unfold sp_pos; rw [show ((q + 1 : Nat) : Int) - 1 = (q : Int) by omega, if_neg hc25, hen.1, show ((q + 1 : Nat) : Int) = (q : Int) + 1 by omega]
          have h9 := ih (q + 1) J46 (by omega) FJ46 AJ46 (by rw [e8]; exact hL46)
          rw [show ((q + 1 : Nat) : Int) = (q : Int) + 1 by omega] at h9
          exact h9
  show ly_V κ b sz I 0 [(0, .ref (b + (82 + 4 * i))), (1, .int (dz_i W))] []
  refine dz_aload_n x.1 0 d_Block_cutIntoLines_0 rfl rfl ?_
  refine dz_iconst x.1 d_Block_cutIntoLines_1 ?_
  refine dz_puti x.1 (ly_Block b hi) fl_Block_32 fp_Block_4 d_Block_cutIntoLines_2 ?_
  refine dz_aload_n x.1 0 d_Block_cutIntoLines_5 rfl rfl ?_
  refine dz_iconst x.1 d_Block_cutIntoLines_6 ?_
  refine dz_puti x.1 (ly_Block b hi) fl_Block_35 fp_Block_6 d_Block_cutIntoLines_7 ?_
  refine dz_iconst x.1 d_Block_cutIntoLines_10 ?_
  refine dz_istore_n (ls' := [(0, .ref (b + (82 + 4 * i))), (1, .int (dz_i W)), (2, .int (dz_i 0))]) x.1 d_Block_cutIntoLines_11 rfl hN (by decide) rfl ?_
  exact loop m.toNat 0 (dz_up (dz_up I (b + (82 + 4 * i)) 4 0) (b + (82 + 4 * i)) 6 0) (by omega) ((sp_fr.rf.up (Or.inl rfl)).up (Or.inl rfl)) (fun q h1 h2 => by rw [dz_up_k _ _ _ h2, dz_up_k _ _ _ h1]) (by
    have e9 : sp_pos h 0 = 0 := if_pos h0
    rw [e9]
    exact ⟨dz_up_s _ _ _ _, by rw [dz_up_k _ _ _ (by decide), dz_up_s]; rfl, fun n hn => by simp [sp_fd, sp_nl] at hn, fun j e he => by simp [sp_fd, sp_nl] at he⟩)
set_option maxRecDepth 100000 in
set_option maxHeartbeats 4000000 in
theorem c_Block_cellOfLine (l : Launch) (D : va_G) (Dt : Nat → ClassId) (b sz : Nat) (I : dz_Hp) (i : Nat) (hi : i < 12) (k : Int) (hk : I (b + (82 + 4 * i)) 0 = k) (hk2 : 0 ≤ k ∧ k ≤ 3) (W : Int) (hW : 10 ≤ W ∧ W ≤ 40) (L : List (List Int)) (LI : sp_L b i I L) (hL : L.length ≤ 200) (hf : L.flatten.length ≤ 200) (q : Nat) (hq : q < L.length) (hqW : ((L.getD q []).length : Int) ≤ W) (pl : Int) (hpl : 0 ≤ pl ∧ pl < 100) : ly_M l D Dt b sz y_Block_cellOfLine b_Block_cellOfLine 6 (some .int) 2 [.ref (b + (82 + 4 * i)), .int (dz_i (q : Int)), .int (dz_i pl), .int (dz_i W)] I (fun v I' => v = some (.int (dz_i (sp_col W k L q pl))) ∧ I' = I) := by
  refine ly_enter R_Block (by decide) rfl (Nat.le_of_ble_eq_true rfl) (ly_cat _ 0 rfl) (fun κ x => ?_)
  have hN := ly_N x
  have ht1 := sp_tk1 L q hq
  have ht2 := sp_take_le L q
  have ht3 := sp_take_le L (q + 1)
  have hin := sp_ind_rng k (q : Int)
  show ly_V κ b sz I 0 [(0, .ref (b + (82 + 4 * i))), (1, .int (dz_i (q : Int))), (2, .int (dz_i pl)), (3, .int (dz_i W))] []
  refine dz_aload_n x.1 0 d_Block_cellOfLine_0 rfl rfl ?_
  refine dz_iload_n x.1 1 d_Block_cellOfLine_1 rfl rfl ?_
  refine ly_callV (rest := []) x cl_Block_58 (c_Block_lengthOf l D Dt b sz I i hi L LI hL (by omega) q hq) (by decide) (ly_Block b hi) rfl rfl rfl rfl (Nat.le_of_ble_eq_true rfl) d_Block_cellOfLine_2 (fun v I' hp2 => ?_)
  obtain ⟨rfl, hp2I⟩ := hp2
  have hp2I := hp2I.symm
  subst hp2I
  show ly_V κ b sz I 5 [(0, .ref (b + (82 + 4 * i))), (1, .int (dz_i (q : Int))), (2, .int (dz_i pl)), (3, .int (dz_i W))] [.int (dz_i ((L.getD q []).length : Int))]
  refine dz_istore (ls' := [(0, .ref (b + (82 + 4 * i))), (1, .int (dz_i (q : Int))), (2, .int (dz_i pl)), (3, .int (dz_i W)), (4, .int (dz_i ((L.getD q []).length : Int)))]) x.1 d_Block_cellOfLine_5 hN (by decide) rfl ?_
  refine dz_iload_n x.1 2 d_Block_cellOfLine_7 rfl rfl ?_
  refine dz_aload_n x.1 0 d_Block_cellOfLine_8 rfl rfl ?_
  refine dz_geti (z := k) x.1 (ly_Block b hi) fl_Block_21 d_Block_cellOfLine_9 hk ?_
  refine dz_iconst x.1 d_Block_cellOfLine_12 ?_
  refine dz_icmp_ne (tgt := 25) x.1 d_Block_cellOfLine_13 (by decide) (by omega) (by omega) (fun hc13 => ?_) (fun hc13 => ?_)
  · refine dz_aload_n x.1 0 d_Block_cellOfLine_25 rfl rfl ?_
    refine dz_iload_n x.1 1 d_Block_cellOfLine_26 rfl rfl ?_
    refine ly_callV (rest := [.int (dz_i pl)]) x cl_Block_55 (c_Block_indentOf l D Dt b sz I i hi k hk hk2 (q : Int) (by omega)) (by decide) (ly_Block b hi) rfl rfl rfl rfl (Nat.le_of_ble_eq_true rfl) d_Block_cellOfLine_27 (fun v I' hp27 => ?_)
    obtain ⟨rfl, hp27I⟩ := hp27
    have hp27I := hp27I.symm
    subst hp27I
    show ly_V κ b sz I 30 [(0, .ref (b + (82 + 4 * i))), (1, .int (dz_i (q : Int))), (2, .int (dz_i pl)), (3, .int (dz_i W)), (4, .int (dz_i ((L.getD q []).length : Int)))] [.int (dz_i (sp_ind k (q : Int))), .int (dz_i pl)]
    refine dz_isub (z := pl - (sp_ind k (q : Int))) x.1 d_Block_cellOfLine_30 (by omega) ?_
    have eo : sp_off W k (L.getD q []) (q : Int) = (sp_ind k (q : Int)) := if_neg hc13
    refine dz_istore (ls' := [(0, .ref (b + (82 + 4 * i))), (1, .int (dz_i (q : Int))), (2, .int (dz_i pl)), (3, .int (dz_i W)), (4, .int (dz_i ((L.getD q []).length : Int))), (5, .int (dz_i (pl - (sp_ind k (q : Int)))))]) x.1 d_Block_cellOfLine_31 hN (by decide) rfl ?_
    refine dz_iload x.1 5 d_Block_cellOfLine_33 rfl ?_
    refine dz_if_lt (tgt := 62) x.1 d_Block_cellOfLine_35 (by decide) (by omega) (fun hc35 => ?_) (fun hc35 => ?_)
    · refine dz_iconst x.1 d_Block_cellOfLine_62 ?_
      have hv9 : sp_col W k L q pl = 0 := by unfold sp_col; rw [eo]; exact if_neg (by omega)
      exact ly_iret x d_Block_cellOfLine_63 rfl ⟨by rw [hv9], rfl⟩
    · refine dz_iload x.1 5 d_Block_cellOfLine_38 rfl ?_
      refine dz_iload x.1 4 d_Block_cellOfLine_40 rfl ?_
      refine dz_icmp_ge (tgt := 62) x.1 d_Block_cellOfLine_42 (by decide) (by omega) (by omega) (fun hc42 => ?_) (fun hc42 => ?_)
      · refine dz_iconst x.1 d_Block_cellOfLine_62 ?_
        have hv9 : sp_col W k L q pl = 0 := by unfold sp_col; rw [eo]; exact if_neg (by omega)
        exact ly_iret x d_Block_cellOfLine_63 rfl ⟨by rw [hv9], rfl⟩
      · refine dz_aload_n x.1 0 d_Block_cellOfLine_45 rfl rfl ?_
        refine dz_getr x.1 (ly_Block b hi) fl_Block_15 (lr_Block_3 b hi) d_Block_cellOfLine_46 ?_
        refine dz_aload_n x.1 0 d_Block_cellOfLine_49 rfl rfl ?_
        refine dz_getr x.1 (ly_Block b hi) fl_Block_18 (lr_Block_5 b hi) d_Block_cellOfLine_50 ?_
        refine dz_iload_n x.1 1 d_Block_cellOfLine_53 rfl rfl ?_
        refine dz_iald (w := ((L.take q).flatten.length : Int)) x.1 (ly_LineBegins b hi) (by decide) (by omega) d_Block_cellOfLine_54 (LI.2.2.1 q hq) ?_
        refine dz_iload x.1 5 d_Block_cellOfLine_55 rfl ?_
        refine dz_iadd (z := ((L.take q).flatten.length : Int) + pl - (sp_ind k (q : Int))) x.1 d_Block_cellOfLine_57 (by omega) ?_
        refine dz_iald (w := ((L.getD q []).getD (pl - (sp_ind k (q : Int))).toNat 0)) x.1 (ly_Laid b hi) (by decide) (by omega) d_Block_cellOfLine_58 (by have h9 := LI.2.2.2 ((L.take q).flatten.length + (pl - (sp_ind k (q : Int))).toNat) _ (sp_flat_get L q (pl - (sp_ind k (q : Int))).toNat hq (by omega)); rw [show (((L.take q).flatten.length + (pl - (sp_ind k (q : Int))).toNat : Nat) : Int) = ((L.take q).flatten.length : Int) + pl - (sp_ind k (q : Int)) by omega] at h9; exact h9) ?_
        refine dz_goto (tgt := 63) x.1 d_Block_cellOfLine_59 (by decide) ?_
        have hv9 : sp_col W k L q pl = ((L.getD q []).getD (pl - (sp_ind k (q : Int))).toNat 0) := by unfold sp_col; rw [eo]; exact if_pos (by omega)
        exact ly_iret x d_Block_cellOfLine_63 rfl ⟨by rw [hv9], rfl⟩
  · refine dz_iload_n x.1 3 d_Block_cellOfLine_16 rfl rfl ?_
    refine dz_iload x.1 4 d_Block_cellOfLine_17 rfl ?_
    refine dz_isub (z := W - ((L.getD q []).length : Int)) x.1 d_Block_cellOfLine_19 (by omega) ?_
    refine dz_iconst x.1 d_Block_cellOfLine_20 ?_
    refine dz_idiv x.1 d_Block_cellOfLine_21 (by omega) (by omega) ?_
    refine dz_goto (tgt := 30) x.1 d_Block_cellOfLine_22 (by decide) ?_
    refine dz_isub (z := pl - ((W - ((L.getD q []).length : Int)) / 2)) x.1 d_Block_cellOfLine_30 (by omega) ?_
    have eo : sp_off W k (L.getD q []) (q : Int) = ((W - ((L.getD q []).length : Int)) / 2) := if_pos hc13
    refine dz_istore (ls' := [(0, .ref (b + (82 + 4 * i))), (1, .int (dz_i (q : Int))), (2, .int (dz_i pl)), (3, .int (dz_i W)), (4, .int (dz_i ((L.getD q []).length : Int))), (5, .int (dz_i (pl - ((W - ((L.getD q []).length : Int)) / 2))))]) x.1 d_Block_cellOfLine_31 hN (by decide) rfl ?_
    refine dz_iload x.1 5 d_Block_cellOfLine_33 rfl ?_
    refine dz_if_lt (tgt := 62) x.1 d_Block_cellOfLine_35 (by decide) (by omega) (fun hc35 => ?_) (fun hc35 => ?_)
    · refine dz_iconst x.1 d_Block_cellOfLine_62 ?_
      have hv9 : sp_col W k L q pl = 0 := by unfold sp_col; rw [eo]; exact if_neg (by omega)
      exact ly_iret x d_Block_cellOfLine_63 rfl ⟨by rw [hv9], rfl⟩
    · refine dz_iload x.1 5 d_Block_cellOfLine_38 rfl ?_
      refine dz_iload x.1 4 d_Block_cellOfLine_40 rfl ?_
      refine dz_icmp_ge (tgt := 62) x.1 d_Block_cellOfLine_42 (by decide) (by omega) (by omega) (fun hc42 => ?_) (fun hc42 => ?_)
      · refine dz_iconst x.1 d_Block_cellOfLine_62 ?_
        have hv9 : sp_col W k L q pl = 0 := by unfold sp_col; rw [eo]; exact if_neg (by omega)
        exact ly_iret x d_Block_cellOfLine_63 rfl ⟨by rw [hv9], rfl⟩
      · refine dz_aload_n x.1 0 d_Block_cellOfLine_45 rfl rfl ?_
        refine dz_getr x.1 (ly_Block b hi) fl_Block_15 (lr_Block_3 b hi) d_Block_cellOfLine_46 ?_
        refine dz_aload_n x.1 0 d_Block_cellOfLine_49 rfl rfl ?_
        refine dz_getr x.1 (ly_Block b hi) fl_Block_18 (lr_Block_5 b hi) d_Block_cellOfLine_50 ?_
        refine dz_iload_n x.1 1 d_Block_cellOfLine_53 rfl rfl ?_
        refine dz_iald (w := ((L.take q).flatten.length : Int)) x.1 (ly_LineBegins b hi) (by decide) (by omega) d_Block_cellOfLine_54 (LI.2.2.1 q hq) ?_
        refine dz_iload x.1 5 d_Block_cellOfLine_55 rfl ?_
        refine dz_iadd (z := ((L.take q).flatten.length : Int) + pl - ((W - ((L.getD q []).length : Int)) / 2)) x.1 d_Block_cellOfLine_57 (by omega) ?_
        refine dz_iald (w := ((L.getD q []).getD (pl - ((W - ((L.getD q []).length : Int)) / 2)).toNat 0)) x.1 (ly_Laid b hi) (by decide) (by omega) d_Block_cellOfLine_58 (by have h9 := LI.2.2.2 ((L.take q).flatten.length + (pl - ((W - ((L.getD q []).length : Int)) / 2)).toNat) _ (sp_flat_get L q (pl - ((W - ((L.getD q []).length : Int)) / 2)).toNat hq (by omega)); rw [show (((L.take q).flatten.length + (pl - ((W - ((L.getD q []).length : Int)) / 2)).toNat : Nat) : Int) = ((L.take q).flatten.length : Int) + pl - ((W - ((L.getD q []).length : Int)) / 2) by omega] at h9; exact h9) ?_
        refine dz_goto (tgt := 63) x.1 d_Block_cellOfLine_59 (by decide) ?_
        have hv9 : sp_col W k L q pl = ((L.getD q []).getD (pl - ((W - ((L.getD q []).length : Int)) / 2)).toNat 0) := by unfold sp_col; rw [eo]; exact if_pos (by omega)
        exact ly_iret x d_Block_cellOfLine_63 rfl ⟨by rw [hv9], rfl⟩
