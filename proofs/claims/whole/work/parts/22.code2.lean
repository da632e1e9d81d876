theorem dz_br (P : Prop) [Decidable P] : -2147483648 ≤ (if P then (1 : Int) else 0) ∧ (if P then (1 : Int) else 0) < 2147483648 := by split <;> omega
theorem dz_b01 (P : Prop) [Decidable P] : (if P then (1 : Int) else 0) = 0 ∨ (if P then (1 : Int) else 0) = 1 := by split <;> omega
theorem dz_bt {P : Prop} [Decidable P] (h : ¬ (if P then (1 : Int) else 0) = 0) : P := by
  by_cases hp : P
  · exact hp
  · rw [if_neg hp] at h; exact absurd rfl h
theorem dz_bf {P : Prop} [Decidable P] (h : (if P then (1 : Int) else 0) = 0) : ¬ P := by
  intro hp
  rw [if_pos hp] at h; omega
section ly_tc
variable {κ : dz_Kx} {l : Launch} {D : va_G} {Dt : Nat → ClassId} {b sz : Nat} {cc : ByteArray} {own : String} {nL : Nat} {ret : Option FieldType} {d : Nat} {post : Option Value → dz_Hp → Prop} {I : dz_Hp} {pc : Nat} {ls : List (Nat × Value)} {st : List Value}
theorem ly_tldcL (x : ly_X κ l D Dt b sz cc own nL ret d post) {z w : Int} (hi : 0 ≤ z ∧ z < 26) (hw : sp_lc z = w) (hd : decode cc pc = .ok (.iaload, 1)) (kk : ly_V κ b sz I (pc + 1) ls (.int (dz_i w) :: st)) : ly_V κ b sz I pc ls (.int (dz_i z) :: .ref (Dt 300) :: st) := by subst hw; exact ly_tldL x hi hd kk
theorem ly_tldcM (x : ly_X κ l D Dt b sz cc own nL ret d post) {z w : Int} (hi : 0 ≤ z ∧ z < 8) (hw : sp_mc z = w) (hd : decode cc pc = .ok (.iaload, 1)) (kk : ly_V κ b sz I (pc + 1) ls (.int (dz_i w) :: st)) : ly_V κ b sz I pc ls (.int (dz_i z) :: .ref (Dt 301) :: st) := by subst hw; exact ly_tldM x hi hd kk
end ly_tc
def sp_small (c : Int) : Int := if 65 ≤ c ∧ c ≤ 90 then c + 32 else c
def sp_big (c : Int) : Int := if 97 ≤ c ∧ c ≤ 122 then c - 32 else c
/-- the cell of a character -/
def sp_cell (c : Int) : Int := if (97 ≤ c ∧ c ≤ 122) ∨ (65 ≤ c ∧ c ≤ 90) then sp_lc (sp_small c - 97) else if 48 ≤ c ∧ c ≤ 57 then (if c = 48 then 26 else sp_lc (c - 49)) else if 0 ≤ sp_ix 1 c then sp_mc (sp_ix 1 c) else 0
/-- the digit of a cell, or '#' -/
def sp_dig (x : Int) : Int := if x = 1 then 49 else if x = 3 then 50 else if x = 9 then 51 else if x = 25 then 52 else if x = 17 then 53 else if x = 11 then 54 else if x = 27 then 55 else if x = 19 then 56 else if x = 10 then 57 else if x = 26 then 48 else 35
/-- the character of a cell, or '#' -/
def sp_chr (x : Int) : Int := ([35, 97, 44, 98, 39, 107, 59, 108, 35, 99, 105, 102, 35, 109, 115, 112, 35, 101, 58, 104, 35, 111, 33, 114, 35, 100, 106, 103, 35, 110, 116, 113, 35, 35, 35, 35, 45, 117, 63, 118, 35, 35, 35, 35, 35, 120, 35, 35, 35, 35, 46, 35, 35, 122, 35, 35, 35, 35, 119, 35, 35, 121, 35, 35] : List Int).getD x.toNat 35
theorem sp_lc_rng (z : Int) : 0 ≤ sp_lc z ∧ sp_lc z < 64 := by
  unfold sp_lc
  by_cases h : z.toNat < 26
  · have key : ∀ n : Nat, n < 26 → 0 ≤ ([1, 3, 9, 25, 17, 11, 27, 19, 10, 26, 5, 7, 13, 29, 21, 15, 31, 23, 14, 30, 37, 39, 58, 45, 61, 53] : List Int).getD n 0 ∧ ([1, 3, 9, 25, 17, 11, 27, 19, 10, 26, 5, 7, 13, 29, 21, 15, 31, 23, 14, 30, 37, 39, 58, 45, 61, 53] : List Int).getD n 0 < 64 := by decide +kernel
    exact key _ h
  · rw [List.getD_eq_getElem?_getD, List.getElem?_eq_none (by simp; omega)]
    simp
theorem sp_mc_rng (z : Int) : 0 ≤ sp_mc z ∧ sp_mc z < 64 := by
  unfold sp_mc
  by_cases h : z.toNat < 8
  · have key : ∀ n : Nat, n < 8 → 0 ≤ ([50, 2, 6, 18, 38, 22, 36, 4] : List Int).getD n 0 ∧ ([50, 2, 6, 18, 38, 22, 36, 4] : List Int).getD n 0 < 64 := by decide +kernel
    exact key _ h
  · rw [List.getD_eq_getElem?_getD, List.getElem?_eq_none (by simp; omega)]
    simp
theorem sp_cell_rng (c : Int) : 0 ≤ sp_cell c ∧ sp_cell c < 64 := by
  unfold sp_cell
  have h1 := sp_lc_rng (sp_small c - 97)
  have h2 := sp_lc_rng (c - 49)
  have h3 := sp_mc_rng (sp_ix 1 c)
  (repeat' split) <;> omega
theorem sp_chr_f {x k r : Int} (h : x = k) (hk : sp_chr k = r) : some (Value.int (dz_i r)) = some (Value.int (dz_i (sp_chr x))) := by subst h; rw [hk]
theorem sp_dig_f {x k r : Int} (h : x = k) (hk : sp_dig k = r) : some (Value.int (dz_i r)) = some (Value.int (dz_i (sp_dig x))) := by subst h; rw [hk]
theorem sp_dig_no {x : Int} (h : x ≠ 1 ∧ x ≠ 3 ∧ x ≠ 9 ∧ x ≠ 25 ∧ x ≠ 17 ∧ x ≠ 11 ∧ x ≠ 27 ∧ x ≠ 19 ∧ x ≠ 10 ∧ x ≠ 26) : sp_dig x = 35 := by
  unfold sp_dig
  obtain ⟨h0, h1, h2, h3, h4, h5, h6, h7, h8, h9⟩ := h
  rw [if_neg h0, if_neg h1, if_neg h2, if_neg h3, if_neg h4, if_neg h5, if_neg h6, if_neg h7, if_neg h8, if_neg h9]
theorem sp_chr_no {x : Int} (hx : 0 ≤ x ∧ x < 64) (h : x ≠ 1 ∧ x ≠ 3 ∧ x ≠ 9 ∧ x ≠ 25 ∧ x ≠ 17 ∧ x ≠ 11 ∧ x ≠ 27 ∧ x ≠ 19 ∧ x ≠ 10 ∧ x ≠ 26 ∧ x ≠ 5 ∧ x ≠ 7 ∧ x ≠ 13 ∧ x ≠ 29 ∧ x ≠ 21 ∧ x ≠ 15 ∧ x ≠ 31 ∧ x ≠ 23 ∧ x ≠ 14 ∧ x ≠ 30 ∧ x ≠ 37 ∧ x ≠ 39 ∧ x ≠ 58 ∧ x ≠ 45 ∧ x ≠ 61 ∧ x ≠ 53 ∧ x ≠ 50 ∧ x ≠ 2 ∧ x ≠ 6 ∧ x ≠ 18 ∧ x ≠ 38 ∧ x ≠ 22 ∧ x ≠ 36 ∧ x ≠ 4) : sp_chr x = 35 := by
  have key : ∀ n : Nat, n < 64 → (n ∈ ([1, 3, 9, 25, 17, 11, 27, 19, 10, 26, 5, 7, 13, 29, 21, 15, 31, 23, 14, 30, 37, 39, 58, 45, 61, 53, 50, 2, 6, 18, 38, 22, 36, 4] : List Nat)) ∨ sp_chr (n : Int) = 35 := by decide +kernel
  rcases key x.toNat (by omega) with hm | hm
  · exfalso
    simp only [List.mem_cons, List.not_mem_nil, or_false] at hm
    omega
  · rw [show ((x.toNat : Nat) : Int) = x by omega] at hm
    exact hm
set_option maxRecDepth 100000 in
set_option maxHeartbeats 4000000 in
theorem c_Code_isLetter (l : Launch) (D : va_G) (Dt : Nat → ClassId) (b sz : Nat) (I : dz_Hp) (c : Int) (hc : 0 ≤ c ∧ c < 65536) : ly_M l D Dt b sz y_Code_isLetter b_Code_isLetter 1 (some .boolean) 2 [.int (dz_i c)] I (fun v I' => v = some (.int (dz_i (if (97 ≤ c ∧ c ≤ 122) ∨ (65 ≤ c ∧ c ≤ 90) then 1 else 0))) ∧ I' = I) := by
  refine ly_enter R_Code (by decide) rfl (Nat.le_of_ble_eq_true rfl) (ly_cat _ 0 rfl) (fun κ x => ?_)
  have hN := ly_N x
  show ly_V κ b sz I 0 [(0, .int (dz_i c))] []
  refine dz_iload_n x.1 0 d_Code_isLetter_0 rfl rfl ?_
  refine ly_callS (rest := []) x cl_Code_9 (c_Code_isSmall l D Dt b sz I c (by omega)) (by decide) rfl rfl (Nat.le_of_ble_eq_true rfl) d_Code_isLetter_1 (fun v I' hp1 => ?_)
  obtain ⟨rfl, hp1I⟩ := hp1
  have hp1I := hp1I.symm
  subst hp1I
  show ly_V κ b sz I 4 [(0, .int (dz_i c))] [.int (dz_i (if 97 ≤ c ∧ c ≤ 122 then 1 else 0))]
  refine dz_if_ne (tgt := 14) x.1 d_Code_isLetter_4 (by decide) (dz_br _) (fun hc2 => ?_) (fun hc2 => ?_)
  · have hc2 : 97 ≤ c ∧ c ≤ 122 := dz_bt hc2
    refine dz_iconst x.1 d_Code_isLetter_14 ?_
    refine dz_goto (tgt := 19) x.1 d_Code_isLetter_15 (by decide) ?_
    exact ly_iret x d_Code_isLetter_19 (dz_nbo (by omega)) ⟨by first | (exfalso; omega) | rw [if_pos (by omega)] | rw [if_neg (by omega)], rfl⟩
  · have hc2 : ¬ (97 ≤ c ∧ c ≤ 122) := dz_bf hc2
    refine dz_iload_n x.1 0 d_Code_isLetter_7 rfl rfl ?_
    refine ly_callS (rest := []) x cl_Code_15 (c_Code_isCapital l D Dt b sz I c (by omega)) (by decide) rfl rfl (Nat.le_of_ble_eq_true rfl) d_Code_isLetter_8 (fun v I' hp3 => ?_)
    obtain ⟨rfl, hp3I⟩ := hp3
    have hp3I := hp3I.symm
    subst hp3I
    show ly_V κ b sz I 11 [(0, .int (dz_i c))] [.int (dz_i (if 65 ≤ c ∧ c ≤ 90 then 1 else 0))]
    refine dz_if_eq (tgt := 18) x.1 d_Code_isLetter_11 (by decide) (dz_br _) (fun hc4 => ?_) (fun hc4 => ?_)
    · have hc4 : ¬ (65 ≤ c ∧ c ≤ 90) := dz_bf hc4
      refine dz_iconst x.1 d_Code_isLetter_18 ?_
      exact ly_iret x d_Code_isLetter_19 (dz_nbo (by omega)) ⟨by first | (exfalso; omega) | rw [if_pos (by omega)] | rw [if_neg (by omega)], rfl⟩
    · have hc4 : 65 ≤ c ∧ c ≤ 90 := dz_bt hc4
      refine dz_iconst x.1 d_Code_isLetter_14 ?_
      refine dz_goto (tgt := 19) x.1 d_Code_isLetter_15 (by decide) ?_
      exact ly_iret x d_Code_isLetter_19 (dz_nbo (by omega)) ⟨by first | (exfalso; omega) | rw [if_pos (by omega)] | rw [if_neg (by omega)], rfl⟩
set_option maxRecDepth 100000 in
set_option maxHeartbeats 4000000 in
theorem c_Code_toSmall (l : Launch) (D : va_G) (Dt : Nat → ClassId) (b sz : Nat) (I : dz_Hp) (c : Int) (hc : 0 ≤ c ∧ c < 65536) : ly_M l D Dt b sz y_Code_toSmall b_Code_toSmall 1 (some .char) 1 [.int (dz_i c)] I (fun v I' => v = some (.int (dz_i (sp_small c))) ∧ I' = I) := by
  refine ly_enter R_Code (by decide) rfl (Nat.le_of_ble_eq_true rfl) (ly_cat _ 0 rfl) (fun κ x => ?_)
  have hN := ly_N x
  show ly_V κ b sz I 0 [(0, .int (dz_i c))] []
  refine dz_iload_n x.1 0 d_Code_toSmall_0 rfl rfl ?_
  refine dz_bipush x.1 d_Code_toSmall_1 (by decide) ?_
  refine dz_icmp_lt (tgt := 23) x.1 d_Code_toSmall_3 (by decide) (by omega) (by omega) (fun hc1 => ?_) (fun hc1 => ?_)
  · refine dz_iload_n x.1 0 d_Code_toSmall_23 rfl rfl ?_
    exact ly_iret x d_Code_toSmall_24 (dz_nch (by omega)) ⟨by unfold sp_small; first | (exfalso; omega) | rw [if_pos (by omega)] | rw [if_neg (by omega)], rfl⟩
  · refine dz_iload_n x.1 0 d_Code_toSmall_6 rfl rfl ?_
    refine dz_bipush x.1 d_Code_toSmall_7 (by decide) ?_
    refine dz_icmp_gt (tgt := 23) x.1 d_Code_toSmall_9 (by decide) (by omega) (by omega) (fun hc2 => ?_) (fun hc2 => ?_)
    · refine dz_iload_n x.1 0 d_Code_toSmall_23 rfl rfl ?_
      exact ly_iret x d_Code_toSmall_24 (dz_nch (by omega)) ⟨by unfold sp_small; first | (exfalso; omega) | rw [if_pos (by omega)] | rw [if_neg (by omega)], rfl⟩
    · refine dz_iload_n x.1 0 d_Code_toSmall_12 rfl rfl ?_
      refine dz_bipush x.1 d_Code_toSmall_13 (by decide) ?_
      refine dz_isub (z := c - 65) x.1 d_Code_toSmall_15 (by omega) ?_
      refine dz_bipush x.1 d_Code_toSmall_16 (by decide) ?_
      refine dz_iadd (z := c + 32) x.1 d_Code_toSmall_18 (by omega) ?_
      refine dz_i2c x.1 d_Code_toSmall_19 (by omega) ?_
      refine dz_goto (tgt := 24) x.1 d_Code_toSmall_20 (by decide) ?_
      exact ly_iret x d_Code_toSmall_24 (dz_nch (by omega)) ⟨by unfold sp_small; first | (exfalso; omega) | rw [if_pos (by omega)] | rw [if_neg (by omega)], rfl⟩
set_option maxRecDepth 100000 in
set_option maxHeartbeats 4000000 in
theorem c_Code_toCapital (l : Launch) (D : va_G) (Dt : Nat → ClassId) (b sz : Nat) (I : dz_Hp) (c : Int) (hc : 0 ≤ c ∧ c < 65536) : ly_M l D Dt b sz y_Code_toCapital b_Code_toCapital 1 (some .char) 1 [.int (dz_i c)] I (fun v I' => v = some (.int (dz_i (sp_big c))) ∧ I' = I) := by
  refine ly_enter R_Code (by decide) rfl (Nat.le_of_ble_eq_true rfl) (ly_cat _ 0 rfl) (fun κ x => ?_)
  have hN := ly_N x
  show ly_V κ b sz I 0 [(0, .int (dz_i c))] []
  refine dz_iload_n x.1 0 d_Code_toCapital_0 rfl rfl ?_
  refine dz_bipush x.1 d_Code_toCapital_1 (by decide) ?_
  refine dz_icmp_lt (tgt := 23) x.1 d_Code_toCapital_3 (by decide) (by omega) (by omega) (fun hc1 => ?_) (fun hc1 => ?_)
  · refine dz_iload_n x.1 0 d_Code_toCapital_23 rfl rfl ?_
    exact ly_iret x d_Code_toCapital_24 (dz_nch (by omega)) ⟨by unfold sp_big; first | (exfalso; omega) | rw [if_pos (by omega)] | rw [if_neg (by omega)], rfl⟩
  · refine dz_iload_n x.1 0 d_Code_toCapital_6 rfl rfl ?_
    refine dz_bipush x.1 d_Code_toCapital_7 (by decide) ?_
    refine dz_icmp_gt (tgt := 23) x.1 d_Code_toCapital_9 (by decide) (by omega) (by omega) (fun hc2 => ?_) (fun hc2 => ?_)
    · refine dz_iload_n x.1 0 d_Code_toCapital_23 rfl rfl ?_
      exact ly_iret x d_Code_toCapital_24 (dz_nch (by omega)) ⟨by unfold sp_big; first | (exfalso; omega) | rw [if_pos (by omega)] | rw [if_neg (by omega)], rfl⟩
    · refine dz_iload_n x.1 0 d_Code_toCapital_12 rfl rfl ?_
      refine dz_bipush x.1 d_Code_toCapital_13 (by decide) ?_
      refine dz_isub (z := c - 97) x.1 d_Code_toCapital_15 (by omega) ?_
      refine dz_bipush x.1 d_Code_toCapital_16 (by decide) ?_
      refine dz_iadd (z := c - 32) x.1 d_Code_toCapital_18 (by omega) ?_
      refine dz_i2c x.1 d_Code_toCapital_19 (by omega) ?_
      refine dz_goto (tgt := 24) x.1 d_Code_toCapital_20 (by decide) ?_
      exact ly_iret x d_Code_toCapital_24 (dz_nch (by omega)) ⟨by unfold sp_big; first | (exfalso; omega) | rw [if_pos (by omega)] | rw [if_neg (by omega)], rfl⟩
theorem sp_small_l {c : Int} (h : (97 ≤ c ∧ c ≤ 122) ∨ (65 ≤ c ∧ c ≤ 90)) : 97 ≤ sp_small c ∧ sp_small c ≤ 122 := by unfold sp_small; split <;> omega
set_option maxRecDepth 100000 in
set_option maxHeartbeats 4000000 in
theorem c_Code_hasCell (l : Launch) (D : va_G) (Dt : Nat → ClassId) (b sz : Nat) (I : dz_Hp) (c : Int) (hc : 0 ≤ c ∧ c < 65536) : ly_M l D Dt b sz y_Code_hasCell b_Code_hasCell 1 (some .boolean) 5 [.int (dz_i c)] I (fun v I' => v = some (.int (dz_i (if c = 32 ∨ ((97 ≤ c ∧ c ≤ 122) ∨ (65 ≤ c ∧ c ≤ 90)) ∨ (48 ≤ c ∧ c ≤ 57) ∨ 0 ≤ sp_ix 1 c then 1 else 0))) ∧ I' = I) := by
  refine ly_enter R_Code (by decide) rfl (Nat.le_of_ble_eq_true rfl) (ly_cat _ 0 rfl) (fun κ x => ?_)
  have hN := ly_N x
  have hr := sp_ix_rng 1 c
  show ly_V κ b sz I 0 [(0, .int (dz_i c))] []
  refine dz_iload_n x.1 0 d_Code_hasCell_0 rfl rfl ?_
  refine dz_bipush x.1 d_Code_hasCell_1 (by decide) ?_
  refine dz_icmp_eq (tgt := 29) x.1 d_Code_hasCell_3 (by decide) (by omega) (by omega) (fun hc1 => ?_) (fun hc1 => ?_)
  · refine dz_iconst x.1 d_Code_hasCell_29 ?_
    refine dz_goto (tgt := 34) x.1 d_Code_hasCell_30 (by decide) ?_
    exact ly_iret x d_Code_hasCell_34 (dz_nbo (by omega)) ⟨by first | (exfalso; omega) | rw [if_pos (by omega)] | rw [if_neg (by omega)], rfl⟩
  · refine dz_iload_n x.1 0 d_Code_hasCell_6 rfl rfl ?_
    refine ly_callS (rest := []) x cl_Code_18 (c_Code_isLetter l D Dt b sz I c (by omega)) (by decide) rfl rfl (Nat.le_of_ble_eq_true rfl) d_Code_hasCell_7 (fun v I' hp2 => ?_)
    obtain ⟨rfl, hp2I⟩ := hp2
    have hp2I := hp2I.symm
    subst hp2I
    show ly_V κ b sz I 10 [(0, .int (dz_i c))] [.int (dz_i (if (97 ≤ c ∧ c ≤ 122) ∨ (65 ≤ c ∧ c ≤ 90) then 1 else 0))]
    refine dz_if_ne (tgt := 29) x.1 d_Code_hasCell_10 (by decide) (dz_br _) (fun hc3 => ?_) (fun hc3 => ?_)
    · have hc3 : (97 ≤ c ∧ c ≤ 122) ∨ (65 ≤ c ∧ c ≤ 90) := dz_bt hc3
      refine dz_iconst x.1 d_Code_hasCell_29 ?_
      refine dz_goto (tgt := 34) x.1 d_Code_hasCell_30 (by decide) ?_
      exact ly_iret x d_Code_hasCell_34 (dz_nbo (by omega)) ⟨by first | (exfalso; omega) | rw [if_pos (by omega)] | rw [if_neg (by omega)], rfl⟩
    · have hc3 : ¬ ((97 ≤ c ∧ c ≤ 122) ∨ (65 ≤ c ∧ c ≤ 90)) := dz_bf hc3
      refine dz_iload_n x.1 0 d_Code_hasCell_13 rfl rfl ?_
      refine ly_callS (rest := []) x cl_Code_21 (c_Code_isDigit l D Dt b sz I c (by omega)) (by decide) rfl rfl (Nat.le_of_ble_eq_true rfl) d_Code_hasCell_14 (fun v I' hp4 => ?_)
      obtain ⟨rfl, hp4I⟩ := hp4
      have hp4I := hp4I.symm
      subst hp4I
      show ly_V κ b sz I 17 [(0, .int (dz_i c))] [.int (dz_i (if 48 ≤ c ∧ c ≤ 57 then 1 else 0))]
      refine dz_if_ne (tgt := 29) x.1 d_Code_hasCell_17 (by decide) (dz_br _) (fun hc5 => ?_) (fun hc5 => ?_)
      · have hc5 : 48 ≤ c ∧ c ≤ 57 := dz_bt hc5
        refine dz_iconst x.1 d_Code_hasCell_29 ?_
        refine dz_goto (tgt := 34) x.1 d_Code_hasCell_30 (by decide) ?_
        exact ly_iret x d_Code_hasCell_34 (dz_nbo (by omega)) ⟨by first | (exfalso; omega) | rw [if_pos (by omega)] | rw [if_neg (by omega)], rfl⟩
      · have hc5 : ¬ (48 ≤ c ∧ c ≤ 57) := dz_bf hc5
        refine ly_ldc1 x d_Code_hasCell_20 ?_
        show ly_V κ b sz I 22 [(0, .int (dz_i c))] [.ref (Dt (100 + 1))]
        refine dz_iload_n x.1 0 d_Code_hasCell_22 rfl rfl ?_
        refine ly_callT (i := 1) (rest := []) x cl_Code_26 (by decide) (c_JStr_indexOf_1 l D Dt b sz I c hc) (by decide) rfl rfl rfl (Nat.le_of_ble_eq_true rfl) d_Code_hasCell_23 (fun v I' hp6 => ?_)
        obtain ⟨rfl, hp6I⟩ := hp6
        have hp6I := hp6I.symm
        subst hp6I
        show ly_V κ b sz I 26 [(0, .int (dz_i c))] [.int (dz_i (sp_ix 1 c))]
        refine dz_if_lt (tgt := 33) x.1 d_Code_hasCell_26 (by decide) (by omega) (fun hc7 => ?_) (fun hc7 => ?_)
        · refine dz_iconst x.1 d_Code_hasCell_33 ?_
          exact ly_iret x d_Code_hasCell_34 (dz_nbo (by omega)) ⟨by first | (exfalso; omega) | rw [if_pos (by omega)] | rw [if_neg (by omega)], rfl⟩
        · refine dz_iconst x.1 d_Code_hasCell_29 ?_
          refine dz_goto (tgt := 34) x.1 d_Code_hasCell_30 (by decide) ?_
          exact ly_iret x d_Code_hasCell_34 (dz_nbo (by omega)) ⟨by first | (exfalso; omega) | rw [if_pos (by omega)] | rw [if_neg (by omega)], rfl⟩
set_option maxRecDepth 100000 in
set_option maxHeartbeats 4000000 in
theorem c_Code_cellOf (l : Launch) (D : va_G) (Dt : Nat → ClassId) (b sz : Nat) (I : dz_Hp) (c : Int) (hc : 0 ≤ c ∧ c < 65536) : ly_M l D Dt b sz y_Code_cellOf b_Code_cellOf 2 (some .int) 5 [.int (dz_i c)] I (fun v I' => v = some (.int (dz_i (sp_cell c))) ∧ I' = I) := by
  refine ly_enter R_Code (by decide) rfl (Nat.le_of_ble_eq_true rfl) (ly_cat _ 0 rfl) (fun κ x => ?_)
  have hN := ly_N x
  have hr := sp_ix_rng 1 c
  show ly_V κ b sz I 0 [(0, .int (dz_i c))] []
  refine dz_iload_n x.1 0 d_Code_cellOf_0 rfl rfl ?_
  refine ly_callS (rest := []) x cl_Code_18 (c_Code_isLetter l D Dt b sz I c (by omega)) (by decide) rfl rfl (Nat.le_of_ble_eq_true rfl) d_Code_cellOf_1 (fun v I' hp1 => ?_)
  obtain ⟨rfl, hp1I⟩ := hp1
  have hp1I := hp1I.symm
  subst hp1I
  show ly_V κ b sz I 4 [(0, .int (dz_i c))] [.int (dz_i (if (97 ≤ c ∧ c ≤ 122) ∨ (65 ≤ c ∧ c ≤ 90) then 1 else 0))]
  refine dz_if_eq (tgt := 19) x.1 d_Code_cellOf_4 (by decide) (dz_br _) (fun hc2 => ?_) (fun hc2 => ?_)
  · have hc2 : ¬ ((97 ≤ c ∧ c ≤ 122) ∨ (65 ≤ c ∧ c ≤ 90)) := dz_bf hc2
    refine dz_iload_n x.1 0 d_Code_cellOf_19 rfl rfl ?_
    refine ly_callS (rest := []) x cl_Code_21 (c_Code_isDigit l D Dt b sz I c (by omega)) (by decide) rfl rfl (Nat.le_of_ble_eq_true rfl) d_Code_cellOf_20 (fun v I' hp3 => ?_)
    obtain ⟨rfl, hp3I⟩ := hp3
    have hp3I := hp3I.symm
    subst hp3I
    show ly_V κ b sz I 23 [(0, .int (dz_i c))] [.int (dz_i (if 48 ≤ c ∧ c ≤ 57 then 1 else 0))]
    refine dz_if_eq (tgt := 50) x.1 d_Code_cellOf_23 (by decide) (dz_br _) (fun hc4 => ?_) (fun hc4 => ?_)
    · have hc4 : ¬ (48 ≤ c ∧ c ≤ 57) := dz_bf hc4
      refine ly_ldc1 x d_Code_cellOf_50 ?_
      show ly_V κ b sz I 52 [(0, .int (dz_i c))] [.ref (Dt (100 + 1))]
      refine dz_iload_n x.1 0 d_Code_cellOf_52 rfl rfl ?_
      refine ly_callT (i := 1) (rest := []) x cl_Code_26 (by decide) (c_JStr_indexOf_1 l D Dt b sz I c hc) (by decide) rfl rfl rfl (Nat.le_of_ble_eq_true rfl) d_Code_cellOf_53 (fun v I' hp5 => ?_)
      obtain ⟨rfl, hp5I⟩ := hp5
      have hp5I := hp5I.symm
      subst hp5I
      show ly_V κ b sz I 56 [(0, .int (dz_i c))] [.int (dz_i (sp_ix 1 c))]
      refine dz_istore_n (ls' := [(0, .int (dz_i c)), (1, .int (dz_i (sp_ix 1 c)))]) x.1 d_Code_cellOf_56 rfl hN (by decide) rfl ?_
      refine dz_iload_n x.1 1 d_Code_cellOf_57 rfl rfl ?_
      refine dz_if_lt (tgt := 77) x.1 d_Code_cellOf_58 (by decide) (by omega) (fun hc6 => ?_) (fun hc6 => ?_)
      · refine dz_iconst x.1 d_Code_cellOf_77 ?_
        exact ly_iret x d_Code_cellOf_78 rfl ⟨by unfold sp_cell; (repeat' (first | rw [if_pos (by omega)] | rw [if_neg (by omega)])), rfl⟩
      · refine dz_iload_n x.1 1 d_Code_cellOf_61 rfl rfl ?_
        refine ly_getsM x sl_Code_40 d_Code_cellOf_62 ?_
        refine ly_tlnM x d_Code_cellOf_65 ?_
        refine dz_icmp_ge (tgt := 77) x.1 d_Code_cellOf_66 (by decide) (by omega) (by omega) (fun hc7 => by exfalso; omega) (fun hc7 => ?_)
        refine ly_getsM x sl_Code_40 d_Code_cellOf_69 ?_
        refine dz_iload_n x.1 1 d_Code_cellOf_72 rfl rfl ?_
        refine ly_tldM x (by omega) d_Code_cellOf_73 ?_
        refine dz_goto (tgt := 78) x.1 d_Code_cellOf_74 (by decide) ?_
        exact ly_iret x d_Code_cellOf_78 rfl ⟨by unfold sp_cell; (repeat' (first | rw [if_pos (by omega)] | rw [if_neg (by omega)])), rfl⟩
    · have hc4 : 48 ≤ c ∧ c ≤ 57 := dz_bt hc4
      refine dz_iload_n x.1 0 d_Code_cellOf_26 rfl rfl ?_
      refine dz_bipush x.1 d_Code_cellOf_27 (by decide) ?_
      refine dz_icmp_ne (tgt := 41) x.1 d_Code_cellOf_29 (by decide) (by omega) (by omega) (fun hc8 => ?_) (fun hc8 => ?_)
      · refine ly_getsL x sl_Code_32 d_Code_cellOf_41 ?_
        refine dz_iload_n x.1 0 d_Code_cellOf_44 rfl rfl ?_
        refine dz_bipush x.1 d_Code_cellOf_45 (by decide) ?_
        refine dz_isub (z := c - 49) x.1 d_Code_cellOf_47 (by omega) ?_
        refine ly_tldL x (by omega) d_Code_cellOf_48 ?_
        exact ly_iret x d_Code_cellOf_49 rfl ⟨by unfold sp_cell; (repeat' (first | rw [if_pos (by omega)] | rw [if_neg (by omega)])), rfl⟩
      · refine ly_getsL x sl_Code_32 d_Code_cellOf_32 ?_
        refine dz_bipush x.1 d_Code_cellOf_35 (by decide) ?_
        refine ly_tldcL (w := 26) x (by omega) (by decide) d_Code_cellOf_37 ?_
        refine dz_goto (tgt := 49) x.1 d_Code_cellOf_38 (by decide) ?_
        exact ly_iret x d_Code_cellOf_49 rfl ⟨by unfold sp_cell; (repeat' (first | rw [if_pos (by omega)] | rw [if_neg (by omega)])), rfl⟩
  · have hc2 : (97 ≤ c ∧ c ≤ 122) ∨ (65 ≤ c ∧ c ≤ 90) := dz_bt hc2
    refine ly_getsL x sl_Code_32 d_Code_cellOf_7 ?_
    refine dz_iload_n x.1 0 d_Code_cellOf_10 rfl rfl ?_
    refine ly_callS (rest := [.ref (Dt 300)]) x cl_Code_36 (c_Code_toSmall l D Dt b sz I c hc) (by decide) rfl rfl (Nat.le_of_ble_eq_true rfl) d_Code_cellOf_11 (fun v I' hp9 => ?_)
    obtain ⟨rfl, hp9I⟩ := hp9
    have hp9I := hp9I.symm
    subst hp9I
    have hs := sp_small_l (c := c) (by omega)
    show ly_V κ b sz I 14 [(0, .int (dz_i c))] [.int (dz_i (sp_small c)), .ref (Dt 300)]
    refine dz_bipush x.1 d_Code_cellOf_14 (by decide) ?_
    refine dz_isub (z := (sp_small c) - 97) x.1 d_Code_cellOf_16 (by omega) ?_
    refine ly_tldL x (by omega) d_Code_cellOf_17 ?_
    exact ly_iret x d_Code_cellOf_18 rfl ⟨by unfold sp_cell; (repeat' (first | rw [if_pos (by omega)] | rw [if_neg (by omega)])), rfl⟩
set_option maxRecDepth 100000 in
set_option maxHeartbeats 4000000 in
theorem c_Code_digitOf (l : Launch) (D : va_G) (Dt : Nat → ClassId) (b sz : Nat) (I : dz_Hp) (q : Int) (hx : 0 ≤ q ∧ q < 64) : ly_M l D Dt b sz y_Code_digitOf b_Code_digitOf 2 (some .char) 1 [.int (dz_i q)] I (fun v I' => v = some (.int (dz_i (sp_dig q))) ∧ I' = I) := by
  refine ly_enter R_Code (by decide) rfl (Nat.le_of_ble_eq_true rfl) (ly_cat _ 0 rfl) (fun κ x => ?_)
  have hN := ly_N x
  show ly_V κ b sz I 0 [(0, .int (dz_i q))] []
  refine dz_iconst x.1 d_Code_digitOf_0 ?_
  refine dz_istore_n (ls' := [(0, .int (dz_i q)), (1, .int (dz_i 0))]) x.1 d_Code_digitOf_1 rfl hN (by decide) rfl ?_
  refine dz_iload_n x.1 1 d_Code_digitOf_2 rfl rfl ?_
  refine dz_bipush x.1 d_Code_digitOf_3 (by decide) ?_
  refine dz_icmp_ge (tgt := 34) x.1 d_Code_digitOf_5 (by decide) (by omega) (by omega) (fun hc1 => by exfalso; omega) (fun hc1 => ?_)
  refine ly_getsL x sl_Code_32 d_Code_digitOf_8 ?_
  refine dz_iload_n x.1 1 d_Code_digitOf_11 rfl rfl ?_
  refine ly_tldcL (w := 1) x (by omega) (by decide) d_Code_digitOf_12 ?_
  refine dz_iload_n x.1 0 d_Code_digitOf_13 rfl rfl ?_
  refine dz_icmp_ne (tgt := 28) x.1 d_Code_digitOf_14 (by decide) (by omega) (by omega) (fun hc2 => ?_) (fun hc2 => ?_)
  · refine dz_iinc (z := 1) (ls' := [(0, .int (dz_i q)), (1, .int (dz_i 1))]) x.1 1 d_Code_digitOf_28 rfl hN (by decide) (by omega) rfl ?_
    refine dz_goto (tgt := 2) x.1 d_Code_digitOf_31 (by decide) ?_
    refine dz_iload_n x.1 1 d_Code_digitOf_2 rfl rfl ?_
    refine dz_bipush x.1 d_Code_digitOf_3 (by decide) ?_
    refine dz_icmp_ge (tgt := 34) x.1 d_Code_digitOf_5 (by decide) (by omega) (by omega) (fun hc3 => by exfalso; omega) (fun hc3 => ?_)
    refine ly_getsL x sl_Code_32 d_Code_digitOf_8 ?_
    refine dz_iload_n x.1 1 d_Code_digitOf_11 rfl rfl ?_
    refine ly_tldcL (w := 3) x (by omega) (by decide) d_Code_digitOf_12 ?_
    refine dz_iload_n x.1 0 d_Code_digitOf_13 rfl rfl ?_
    refine dz_icmp_ne (tgt := 28) x.1 d_Code_digitOf_14 (by decide) (by omega) (by omega) (fun hc4 => ?_) (fun hc4 => ?_)
    · refine dz_iinc (z := 2) (ls' := [(0, .int (dz_i q)), (1, .int (dz_i 2))]) x.1 1 d_Code_digitOf_28 rfl hN (by decide) (by omega) rfl ?_
      refine dz_goto (tgt := 2) x.1 d_Code_digitOf_31 (by decide) ?_
      refine dz_iload_n x.1 1 d_Code_digitOf_2 rfl rfl ?_
      refine dz_bipush x.1 d_Code_digitOf_3 (by decide) ?_
      refine dz_icmp_ge (tgt := 34) x.1 d_Code_digitOf_5 (by decide) (by omega) (by omega) (fun hc5 => by exfalso; omega) (fun hc5 => ?_)
      refine ly_getsL x sl_Code_32 d_Code_digitOf_8 ?_
      refine dz_iload_n x.1 1 d_Code_digitOf_11 rfl rfl ?_
      refine ly_tldcL (w := 9) x (by omega) (by decide) d_Code_digitOf_12 ?_
      refine dz_iload_n x.1 0 d_Code_digitOf_13 rfl rfl ?_
      refine dz_icmp_ne (tgt := 28) x.1 d_Code_digitOf_14 (by decide) (by omega) (by omega) (fun hc6 => ?_) (fun hc6 => ?_)
      · refine dz_iinc (z := 3) (ls' := [(0, .int (dz_i q)), (1, .int (dz_i 3))]) x.1 1 d_Code_digitOf_28 rfl hN (by decide) (by omega) rfl ?_
        refine dz_goto (tgt := 2) x.1 d_Code_digitOf_31 (by decide) ?_
        refine dz_iload_n x.1 1 d_Code_digitOf_2 rfl rfl ?_
        refine dz_bipush x.1 d_Code_digitOf_3 (by decide) ?_
        refine dz_icmp_ge (tgt := 34) x.1 d_Code_digitOf_5 (by decide) (by omega) (by omega) (fun hc7 => by exfalso; omega) (fun hc7 => ?_)
        refine ly_getsL x sl_Code_32 d_Code_digitOf_8 ?_
        refine dz_iload_n x.1 1 d_Code_digitOf_11 rfl rfl ?_
        refine ly_tldcL (w := 25) x (by omega) (by decide) d_Code_digitOf_12 ?_
        refine dz_iload_n x.1 0 d_Code_digitOf_13 rfl rfl ?_
        refine dz_icmp_ne (tgt := 28) x.1 d_Code_digitOf_14 (by decide) (by omega) (by omega) (fun hc8 => ?_) (fun hc8 => ?_)
        · refine dz_iinc (z := 4) (ls' := [(0, .int (dz_i q)), (1, .int (dz_i 4))]) x.1 1 d_Code_digitOf_28 rfl hN (by decide) (by omega) rfl ?_
          refine dz_goto (tgt := 2) x.1 d_Code_digitOf_31 (by decide) ?_
          refine dz_iload_n x.1 1 d_Code_digitOf_2 rfl rfl ?_
          refine dz_bipush x.1 d_Code_digitOf_3 (by decide) ?_
          refine dz_icmp_ge (tgt := 34) x.1 d_Code_digitOf_5 (by decide) (by omega) (by omega) (fun hc9 => by exfalso; omega) (fun hc9 => ?_)
          refine ly_getsL x sl_Code_32 d_Code_digitOf_8 ?_
          refine dz_iload_n x.1 1 d_Code_digitOf_11 rfl rfl ?_
          refine ly_tldcL (w := 17) x (by omega) (by decide) d_Code_digitOf_12 ?_
          refine dz_iload_n x.1 0 d_Code_digitOf_13 rfl rfl ?_
          refine dz_icmp_ne (tgt := 28) x.1 d_Code_digitOf_14 (by decide) (by omega) (by omega) (fun hc10 => ?_) (fun hc10 => ?_)
          · refine dz_iinc (z := 5) (ls' := [(0, .int (dz_i q)), (1, .int (dz_i 5))]) x.1 1 d_Code_digitOf_28 rfl hN (by decide) (by omega) rfl ?_
            refine dz_goto (tgt := 2) x.1 d_Code_digitOf_31 (by decide) ?_
            refine dz_iload_n x.1 1 d_Code_digitOf_2 rfl rfl ?_
            refine dz_bipush x.1 d_Code_digitOf_3 (by decide) ?_
            refine dz_icmp_ge (tgt := 34) x.1 d_Code_digitOf_5 (by decide) (by omega) (by omega) (fun hc11 => by exfalso; omega) (fun hc11 => ?_)
            refine ly_getsL x sl_Code_32 d_Code_digitOf_8 ?_
            refine dz_iload_n x.1 1 d_Code_digitOf_11 rfl rfl ?_
            refine ly_tldcL (w := 11) x (by omega) (by decide) d_Code_digitOf_12 ?_
            refine dz_iload_n x.1 0 d_Code_digitOf_13 rfl rfl ?_
            refine dz_icmp_ne (tgt := 28) x.1 d_Code_digitOf_14 (by decide) (by omega) (by omega) (fun hc12 => ?_) (fun hc12 => ?_)
            · refine dz_iinc (z := 6) (ls' := [(0, .int (dz_i q)), (1, .int (dz_i 6))]) x.1 1 d_Code_digitOf_28 rfl hN (by decide) (by omega) rfl ?_
              refine dz_goto (tgt := 2) x.1 d_Code_digitOf_31 (by decide) ?_
              refine dz_iload_n x.1 1 d_Code_digitOf_2 rfl rfl ?_
              refine dz_bipush x.1 d_Code_digitOf_3 (by decide) ?_
              refine dz_icmp_ge (tgt := 34) x.1 d_Code_digitOf_5 (by decide) (by omega) (by omega) (fun hc13 => by exfalso; omega) (fun hc13 => ?_)
              refine ly_getsL x sl_Code_32 d_Code_digitOf_8 ?_
              refine dz_iload_n x.1 1 d_Code_digitOf_11 rfl rfl ?_
              refine ly_tldcL (w := 27) x (by omega) (by decide) d_Code_digitOf_12 ?_
              refine dz_iload_n x.1 0 d_Code_digitOf_13 rfl rfl ?_
              refine dz_icmp_ne (tgt := 28) x.1 d_Code_digitOf_14 (by decide) (by omega) (by omega) (fun hc14 => ?_) (fun hc14 => ?_)
              · refine dz_iinc (z := 7) (ls' := [(0, .int (dz_i q)), (1, .int (dz_i 7))]) x.1 1 d_Code_digitOf_28 rfl hN (by decide) (by omega) rfl ?_
                refine dz_goto (tgt := 2) x.1 d_Code_digitOf_31 (by decide) ?_
                refine dz_iload_n x.1 1 d_Code_digitOf_2 rfl rfl ?_
                refine dz_bipush x.1 d_Code_digitOf_3 (by decide) ?_
                refine dz_icmp_ge (tgt := 34) x.1 d_Code_digitOf_5 (by decide) (by omega) (by omega) (fun hc15 => by exfalso; omega) (fun hc15 => ?_)
                refine ly_getsL x sl_Code_32 d_Code_digitOf_8 ?_
                refine dz_iload_n x.1 1 d_Code_digitOf_11 rfl rfl ?_
                refine ly_tldcL (w := 19) x (by omega) (by decide) d_Code_digitOf_12 ?_
                refine dz_iload_n x.1 0 d_Code_digitOf_13 rfl rfl ?_
                refine dz_icmp_ne (tgt := 28) x.1 d_Code_digitOf_14 (by decide) (by omega) (by omega) (fun hc16 => ?_) (fun hc16 => ?_)
                · refine dz_iinc (z := 8) (ls' := [(0, .int (dz_i q)), (1, .int (dz_i 8))]) x.1 1 d_Code_digitOf_28 rfl hN (by decide) (by omega) rfl ?_
                  refine dz_goto (tgt := 2) x.1 d_Code_digitOf_31 (by decide) ?_
                  refine dz_iload_n x.1 1 d_Code_digitOf_2 rfl rfl ?_
                  refine dz_bipush x.1 d_Code_digitOf_3 (by decide) ?_
                  refine dz_icmp_ge (tgt := 34) x.1 d_Code_digitOf_5 (by decide) (by omega) (by omega) (fun hc17 => by exfalso; omega) (fun hc17 => ?_)
                  refine ly_getsL x sl_Code_32 d_Code_digitOf_8 ?_
                  refine dz_iload_n x.1 1 d_Code_digitOf_11 rfl rfl ?_
                  refine ly_tldcL (w := 10) x (by omega) (by decide) d_Code_digitOf_12 ?_
                  refine dz_iload_n x.1 0 d_Code_digitOf_13 rfl rfl ?_
                  refine dz_icmp_ne (tgt := 28) x.1 d_Code_digitOf_14 (by decide) (by omega) (by omega) (fun hc18 => ?_) (fun hc18 => ?_)
                  · refine dz_iinc (z := 9) (ls' := [(0, .int (dz_i q)), (1, .int (dz_i 9))]) x.1 1 d_Code_digitOf_28 rfl hN (by decide) (by omega) rfl ?_
                    refine dz_goto (tgt := 2) x.1 d_Code_digitOf_31 (by decide) ?_
                    refine dz_iload_n x.1 1 d_Code_digitOf_2 rfl rfl ?_
                    refine dz_bipush x.1 d_Code_digitOf_3 (by decide) ?_
                    refine dz_icmp_ge (tgt := 34) x.1 d_Code_digitOf_5 (by decide) (by omega) (by omega) (fun hc19 => by exfalso; omega) (fun hc19 => ?_)
                    refine ly_getsL x sl_Code_32 d_Code_digitOf_8 ?_
                    refine dz_iload_n x.1 1 d_Code_digitOf_11 rfl rfl ?_
                    refine ly_tldcL (w := 26) x (by omega) (by decide) d_Code_digitOf_12 ?_
                    refine dz_iload_n x.1 0 d_Code_digitOf_13 rfl rfl ?_
                    refine dz_icmp_ne (tgt := 28) x.1 d_Code_digitOf_14 (by decide) (by omega) (by omega) (fun hc20 => ?_) (fun hc20 => ?_)
                    · refine dz_iinc (z := 10) (ls' := [(0, .int (dz_i q)), (1, .int (dz_i 10))]) x.1 1 d_Code_digitOf_28 rfl hN (by decide) (by omega) rfl ?_
                      refine dz_goto (tgt := 2) x.1 d_Code_digitOf_31 (by decide) ?_
                      refine dz_iload_n x.1 1 d_Code_digitOf_2 rfl rfl ?_
                      refine dz_bipush x.1 d_Code_digitOf_3 (by decide) ?_
                      refine dz_icmp_ge (tgt := 34) x.1 d_Code_digitOf_5 (by decide) (by omega) (by omega) (fun hc21 => ?_) (fun hc21 => by exfalso; omega)
                      refine dz_bipush x.1 d_Code_digitOf_34 (by decide) ?_
                      exact ly_iret x d_Code_digitOf_36 (dz_nch (by omega)) ⟨by rw [sp_dig_no (by omega)], rfl⟩
                    · refine dz_bipush x.1 d_Code_digitOf_17 (by decide) ?_
                      refine dz_iload_n x.1 1 d_Code_digitOf_19 rfl rfl ?_
                      refine dz_iconst x.1 d_Code_digitOf_20 ?_
                      refine dz_iadd (z := 10) x.1 d_Code_digitOf_21 (by omega) ?_
                      refine dz_bipush x.1 d_Code_digitOf_22 (by decide) ?_
                      refine dz_irem x.1 d_Code_digitOf_24 (by omega) (by omega) ?_
                      refine dz_iadd (z := (10 % 10) + 48) x.1 d_Code_digitOf_25 (by omega) ?_
                      refine dz_i2c x.1 d_Code_digitOf_26 (by omega) ?_
                      exact ly_iret x d_Code_digitOf_27 (dz_nch (by omega)) ⟨sp_dig_f (k := 26) (by omega) (by decide), rfl⟩
                  · refine dz_bipush x.1 d_Code_digitOf_17 (by decide) ?_
                    refine dz_iload_n x.1 1 d_Code_digitOf_19 rfl rfl ?_
                    refine dz_iconst x.1 d_Code_digitOf_20 ?_
                    refine dz_iadd (z := 9) x.1 d_Code_digitOf_21 (by omega) ?_
                    refine dz_bipush x.1 d_Code_digitOf_22 (by decide) ?_
                    refine dz_irem x.1 d_Code_digitOf_24 (by omega) (by omega) ?_
                    refine dz_iadd (z := (9 % 10) + 48) x.1 d_Code_digitOf_25 (by omega) ?_
                    refine dz_i2c x.1 d_Code_digitOf_26 (by omega) ?_
                    exact ly_iret x d_Code_digitOf_27 (dz_nch (by omega)) ⟨sp_dig_f (k := 10) (by omega) (by decide), rfl⟩
                · refine dz_bipush x.1 d_Code_digitOf_17 (by decide) ?_
                  refine dz_iload_n x.1 1 d_Code_digitOf_19 rfl rfl ?_
                  refine dz_iconst x.1 d_Code_digitOf_20 ?_
                  refine dz_iadd (z := 8) x.1 d_Code_digitOf_21 (by omega) ?_
                  refine dz_bipush x.1 d_Code_digitOf_22 (by decide) ?_
                  refine dz_irem x.1 d_Code_digitOf_24 (by omega) (by omega) ?_
                  refine dz_iadd (z := (8 % 10) + 48) x.1 d_Code_digitOf_25 (by omega) ?_
                  refine dz_i2c x.1 d_Code_digitOf_26 (by omega) ?_
                  exact ly_iret x d_Code_digitOf_27 (dz_nch (by omega)) ⟨sp_dig_f (k := 19) (by omega) (by decide), rfl⟩
              · refine dz_bipush x.1 d_Code_digitOf_17 (by decide) ?_
                refine dz_iload_n x.1 1 d_Code_digitOf_19 rfl rfl ?_
                refine dz_iconst x.1 d_Code_digitOf_20 ?_
                refine dz_iadd (z := 7) x.1 d_Code_digitOf_21 (by omega) ?_
                refine dz_bipush x.1 d_Code_digitOf_22 (by decide) ?_
                refine dz_irem x.1 d_Code_digitOf_24 (by omega) (by omega) ?_
                refine dz_iadd (z := (7 % 10) + 48) x.1 d_Code_digitOf_25 (by omega) ?_
                refine dz_i2c x.1 d_Code_digitOf_26 (by omega) ?_
                exact ly_iret x d_Code_digitOf_27 (dz_nch (by omega)) ⟨sp_dig_f (k := 27) (by omega) (by decide), rfl⟩
            · refine dz_bipush x.1 d_Code_digitOf_17 (by decide) ?_
              refine dz_iload_n x.1 1 d_Code_digitOf_19 rfl rfl ?_
              refine dz_iconst x.1 d_Code_digitOf_20 ?_
              refine dz_iadd (z := 6) x.1 d_Code_digitOf_21 (by omega) ?_
              refine dz_bipush x.1 d_Code_digitOf_22 (by decide) ?_
              refine dz_irem x.1 d_Code_digitOf_24 (by omega) (by omega) ?_
              refine dz_iadd (z := (6 % 10) + 48) x.1 d_Code_digitOf_25 (by omega) ?_
              refine dz_i2c x.1 d_Code_digitOf_26 (by omega) ?_
              exact ly_iret x d_Code_digitOf_27 (dz_nch (by omega)) ⟨sp_dig_f (k := 11) (by omega) (by decide), rfl⟩
          · refine dz_bipush x.1 d_Code_digitOf_17 (by decide) ?_
            refine dz_iload_n x.1 1 d_Code_digitOf_19 rfl rfl ?_
            refine dz_iconst x.1 d_Code_digitOf_20 ?_
            refine dz_iadd (z := 5) x.1 d_Code_digitOf_21 (by omega) ?_
            refine dz_bipush x.1 d_Code_digitOf_22 (by decide) ?_
            refine dz_irem x.1 d_Code_digitOf_24 (by omega) (by omega) ?_
            refine dz_iadd (z := (5 % 10) + 48) x.1 d_Code_digitOf_25 (by omega) ?_
            refine dz_i2c x.1 d_Code_digitOf_26 (by omega) ?_
            exact ly_iret x d_Code_digitOf_27 (dz_nch (by omega)) ⟨sp_dig_f (k := 17) (by omega) (by decide), rfl⟩
        · refine dz_bipush x.1 d_Code_digitOf_17 (by decide) ?_
          refine dz_iload_n x.1 1 d_Code_digitOf_19 rfl rfl ?_
          refine dz_iconst x.1 d_Code_digitOf_20 ?_
          refine dz_iadd (z := 4) x.1 d_Code_digitOf_21 (by omega) ?_
          refine dz_bipush x.1 d_Code_digitOf_22 (by decide) ?_
          refine dz_irem x.1 d_Code_digitOf_24 (by omega) (by omega) ?_
          refine dz_iadd (z := (4 % 10) + 48) x.1 d_Code_digitOf_25 (by omega) ?_
          refine dz_i2c x.1 d_Code_digitOf_26 (by omega) ?_
          exact ly_iret x d_Code_digitOf_27 (dz_nch (by omega)) ⟨sp_dig_f (k := 25) (by omega) (by decide), rfl⟩
      · refine dz_bipush x.1 d_Code_digitOf_17 (by decide) ?_
        refine dz_iload_n x.1 1 d_Code_digitOf_19 rfl rfl ?_
        refine dz_iconst x.1 d_Code_digitOf_20 ?_
        refine dz_iadd (z := 3) x.1 d_Code_digitOf_21 (by omega) ?_
        refine dz_bipush x.1 d_Code_digitOf_22 (by decide) ?_
        refine dz_irem x.1 d_Code_digitOf_24 (by omega) (by omega) ?_
        refine dz_iadd (z := (3 % 10) + 48) x.1 d_Code_digitOf_25 (by omega) ?_
        refine dz_i2c x.1 d_Code_digitOf_26 (by omega) ?_
        exact ly_iret x d_Code_digitOf_27 (dz_nch (by omega)) ⟨sp_dig_f (k := 9) (by omega) (by decide), rfl⟩
    · refine dz_bipush x.1 d_Code_digitOf_17 (by decide) ?_
      refine dz_iload_n x.1 1 d_Code_digitOf_19 rfl rfl ?_
      refine dz_iconst x.1 d_Code_digitOf_20 ?_
      refine dz_iadd (z := 2) x.1 d_Code_digitOf_21 (by omega) ?_
      refine dz_bipush x.1 d_Code_digitOf_22 (by decide) ?_
      refine dz_irem x.1 d_Code_digitOf_24 (by omega) (by omega) ?_
      refine dz_iadd (z := (2 % 10) + 48) x.1 d_Code_digitOf_25 (by omega) ?_
      refine dz_i2c x.1 d_Code_digitOf_26 (by omega) ?_
      exact ly_iret x d_Code_digitOf_27 (dz_nch (by omega)) ⟨sp_dig_f (k := 3) (by omega) (by decide), rfl⟩
  · refine dz_bipush x.1 d_Code_digitOf_17 (by decide) ?_
    refine dz_iload_n x.1 1 d_Code_digitOf_19 rfl rfl ?_
    refine dz_iconst x.1 d_Code_digitOf_20 ?_
    refine dz_iadd (z := 1) x.1 d_Code_digitOf_21 (by omega) ?_
    refine dz_bipush x.1 d_Code_digitOf_22 (by decide) ?_
    refine dz_irem x.1 d_Code_digitOf_24 (by omega) (by omega) ?_
    refine dz_iadd (z := (1 % 10) + 48) x.1 d_Code_digitOf_25 (by omega) ?_
    refine dz_i2c x.1 d_Code_digitOf_26 (by omega) ?_
    exact ly_iret x d_Code_digitOf_27 (dz_nch (by omega)) ⟨sp_dig_f (k := 1) (by omega) (by decide), rfl⟩
set_option maxRecDepth 100000 in
set_option maxHeartbeats 4000000 in
theorem c_Code_characterOf (l : Launch) (D : va_G) (Dt : Nat → ClassId) (b sz : Nat) (I : dz_Hp) (q : Int) (hx : 0 ≤ q ∧ q < 64) : ly_M l D Dt b sz y_Code_characterOf b_Code_characterOf 2 (some .char) 5 [.int (dz_i q)] I (fun v I' => v = some (.int (dz_i (sp_chr q))) ∧ I' = I) := by
  refine ly_enter R_Code (by decide) rfl (Nat.le_of_ble_eq_true rfl) (ly_cat _ 0 rfl) (fun κ x => ?_)
  have hN := ly_N x
  show ly_V κ b sz I 0 [(0, .int (dz_i q))] []
  refine dz_iconst x.1 d_Code_characterOf_0 ?_
  refine dz_istore_n (ls' := [(0, .int (dz_i q)), (1, .int (dz_i 0))]) x.1 d_Code_characterOf_1 rfl hN (by decide) rfl ?_
  refine dz_iload_n x.1 1 d_Code_characterOf_2 rfl rfl ?_
  refine ly_getsL x sl_Code_32 d_Code_characterOf_3 ?_
  refine ly_tlnL x d_Code_characterOf_6 ?_
  refine dz_icmp_ge (tgt := 31) x.1 d_Code_characterOf_7 (by decide) (by omega) (by omega) (fun hc1 => by exfalso; omega) (fun hc1 => ?_)
  refine ly_getsL x sl_Code_32 d_Code_characterOf_10 ?_
  refine dz_iload_n x.1 1 d_Code_characterOf_13 rfl rfl ?_
  refine ly_tldcL (w := 1) x (by omega) (by decide) d_Code_characterOf_14 ?_
  refine dz_iload_n x.1 0 d_Code_characterOf_15 rfl rfl ?_
  refine dz_icmp_ne (tgt := 25) x.1 d_Code_characterOf_16 (by decide) (by omega) (by omega) (fun hc2 => ?_) (fun hc2 => ?_)
  · refine dz_iinc (z := 1) (ls' := [(0, .int (dz_i q)), (1, .int (dz_i 1))]) x.1 1 d_Code_characterOf_25 rfl hN (by decide) (by omega) rfl ?_
    refine dz_goto (tgt := 2) x.1 d_Code_characterOf_28 (by decide) ?_
    refine dz_iload_n x.1 1 d_Code_characterOf_2 rfl rfl ?_
    refine ly_getsL x sl_Code_32 d_Code_characterOf_3 ?_
    refine ly_tlnL x d_Code_characterOf_6 ?_
    refine dz_icmp_ge (tgt := 31) x.1 d_Code_characterOf_7 (by decide) (by omega) (by omega) (fun hc3 => by exfalso; omega) (fun hc3 => ?_)
    refine ly_getsL x sl_Code_32 d_Code_characterOf_10 ?_
    refine dz_iload_n x.1 1 d_Code_characterOf_13 rfl rfl ?_
    refine ly_tldcL (w := 3) x (by omega) (by decide) d_Code_characterOf_14 ?_
    refine dz_iload_n x.1 0 d_Code_characterOf_15 rfl rfl ?_
    refine dz_icmp_ne (tgt := 25) x.1 d_Code_characterOf_16 (by decide) (by omega) (by omega) (fun hc4 => ?_) (fun hc4 => ?_)
    · refine dz_iinc (z := 2) (ls' := [(0, .int (dz_i q)), (1, .int (dz_i 2))]) x.1 1 d_Code_characterOf_25 rfl hN (by decide) (by omega) rfl ?_
      refine dz_goto (tgt := 2) x.1 d_Code_characterOf_28 (by decide) ?_
      refine dz_iload_n x.1 1 d_Code_characterOf_2 rfl rfl ?_
      refine ly_getsL x sl_Code_32 d_Code_characterOf_3 ?_
      refine ly_tlnL x d_Code_characterOf_6 ?_
      refine dz_icmp_ge (tgt := 31) x.1 d_Code_characterOf_7 (by decide) (by omega) (by omega) (fun hc5 => by exfalso; omega) (fun hc5 => ?_)
      refine ly_getsL x sl_Code_32 d_Code_characterOf_10 ?_
      refine dz_iload_n x.1 1 d_Code_characterOf_13 rfl rfl ?_
      refine ly_tldcL (w := 9) x (by omega) (by decide) d_Code_characterOf_14 ?_
      refine dz_iload_n x.1 0 d_Code_characterOf_15 rfl rfl ?_
      refine dz_icmp_ne (tgt := 25) x.1 d_Code_characterOf_16 (by decide) (by omega) (by omega) (fun hc6 => ?_) (fun hc6 => ?_)
      · refine dz_iinc (z := 3) (ls' := [(0, .int (dz_i q)), (1, .int (dz_i 3))]) x.1 1 d_Code_characterOf_25 rfl hN (by decide) (by omega) rfl ?_
        refine dz_goto (tgt := 2) x.1 d_Code_characterOf_28 (by decide) ?_
        refine dz_iload_n x.1 1 d_Code_characterOf_2 rfl rfl ?_
        refine ly_getsL x sl_Code_32 d_Code_characterOf_3 ?_
        refine ly_tlnL x d_Code_characterOf_6 ?_
        refine dz_icmp_ge (tgt := 31) x.1 d_Code_characterOf_7 (by decide) (by omega) (by omega) (fun hc7 => by exfalso; omega) (fun hc7 => ?_)
        refine ly_getsL x sl_Code_32 d_Code_characterOf_10 ?_
        refine dz_iload_n x.1 1 d_Code_characterOf_13 rfl rfl ?_
        refine ly_tldcL (w := 25) x (by omega) (by decide) d_Code_characterOf_14 ?_
        refine dz_iload_n x.1 0 d_Code_characterOf_15 rfl rfl ?_
        refine dz_icmp_ne (tgt := 25) x.1 d_Code_characterOf_16 (by decide) (by omega) (by omega) (fun hc8 => ?_) (fun hc8 => ?_)
        · refine dz_iinc (z := 4) (ls' := [(0, .int (dz_i q)), (1, .int (dz_i 4))]) x.1 1 d_Code_characterOf_25 rfl hN (by decide) (by omega) rfl ?_
          refine dz_goto (tgt := 2) x.1 d_Code_characterOf_28 (by decide) ?_
          refine dz_iload_n x.1 1 d_Code_characterOf_2 rfl rfl ?_
          refine ly_getsL x sl_Code_32 d_Code_characterOf_3 ?_
          refine ly_tlnL x d_Code_characterOf_6 ?_
          refine dz_icmp_ge (tgt := 31) x.1 d_Code_characterOf_7 (by decide) (by omega) (by omega) (fun hc9 => by exfalso; omega) (fun hc9 => ?_)
          refine ly_getsL x sl_Code_32 d_Code_characterOf_10 ?_
          refine dz_iload_n x.1 1 d_Code_characterOf_13 rfl rfl ?_
          refine ly_tldcL (w := 17) x (by omega) (by decide) d_Code_characterOf_14 ?_
          refine dz_iload_n x.1 0 d_Code_characterOf_15 rfl rfl ?_
          refine dz_icmp_ne (tgt := 25) x.1 d_Code_characterOf_16 (by decide) (by omega) (by omega) (fun hc10 => ?_) (fun hc10 => ?_)
          · refine dz_iinc (z := 5) (ls' := [(0, .int (dz_i q)), (1, .int (dz_i 5))]) x.1 1 d_Code_characterOf_25 rfl hN (by decide) (by omega) rfl ?_
            refine dz_goto (tgt := 2) x.1 d_Code_characterOf_28 (by decide) ?_
            refine dz_iload_n x.1 1 d_Code_characterOf_2 rfl rfl ?_
            refine ly_getsL x sl_Code_32 d_Code_characterOf_3 ?_
            refine ly_tlnL x d_Code_characterOf_6 ?_
            refine dz_icmp_ge (tgt := 31) x.1 d_Code_characterOf_7 (by decide) (by omega) (by omega) (fun hc11 => by exfalso; omega) (fun hc11 => ?_)
            refine ly_getsL x sl_Code_32 d_Code_characterOf_10 ?_
            refine dz_iload_n x.1 1 d_Code_characterOf_13 rfl rfl ?_
            refine ly_tldcL (w := 11) x (by omega) (by decide) d_Code_characterOf_14 ?_
            refine dz_iload_n x.1 0 d_Code_characterOf_15 rfl rfl ?_
            refine dz_icmp_ne (tgt := 25) x.1 d_Code_characterOf_16 (by decide) (by omega) (by omega) (fun hc12 => ?_) (fun hc12 => ?_)
            · refine dz_iinc (z := 6) (ls' := [(0, .int (dz_i q)), (1, .int (dz_i 6))]) x.1 1 d_Code_characterOf_25 rfl hN (by decide) (by omega) rfl ?_
              refine dz_goto (tgt := 2) x.1 d_Code_characterOf_28 (by decide) ?_
              refine dz_iload_n x.1 1 d_Code_characterOf_2 rfl rfl ?_
              refine ly_getsL x sl_Code_32 d_Code_characterOf_3 ?_
              refine ly_tlnL x d_Code_characterOf_6 ?_
              refine dz_icmp_ge (tgt := 31) x.1 d_Code_characterOf_7 (by decide) (by omega) (by omega) (fun hc13 => by exfalso; omega) (fun hc13 => ?_)
              refine ly_getsL x sl_Code_32 d_Code_characterOf_10 ?_
              refine dz_iload_n x.1 1 d_Code_characterOf_13 rfl rfl ?_
              refine ly_tldcL (w := 27) x (by omega) (by decide) d_Code_characterOf_14 ?_
              refine dz_iload_n x.1 0 d_Code_characterOf_15 rfl rfl ?_
              refine dz_icmp_ne (tgt := 25) x.1 d_Code_characterOf_16 (by decide) (by omega) (by omega) (fun hc14 => ?_) (fun hc14 => ?_)
              · refine dz_iinc (z := 7) (ls' := [(0, .int (dz_i q)), (1, .int (dz_i 7))]) x.1 1 d_Code_characterOf_25 rfl hN (by decide) (by omega) rfl ?_
                refine dz_goto (tgt := 2) x.1 d_Code_characterOf_28 (by decide) ?_
                refine dz_iload_n x.1 1 d_Code_characterOf_2 rfl rfl ?_
                refine ly_getsL x sl_Code_32 d_Code_characterOf_3 ?_
                refine ly_tlnL x d_Code_characterOf_6 ?_
                refine dz_icmp_ge (tgt := 31) x.1 d_Code_characterOf_7 (by decide) (by omega) (by omega) (fun hc15 => by exfalso; omega) (fun hc15 => ?_)
                refine ly_getsL x sl_Code_32 d_Code_characterOf_10 ?_
                refine dz_iload_n x.1 1 d_Code_characterOf_13 rfl rfl ?_
                refine ly_tldcL (w := 19) x (by omega) (by decide) d_Code_characterOf_14 ?_
                refine dz_iload_n x.1 0 d_Code_characterOf_15 rfl rfl ?_
                refine dz_icmp_ne (tgt := 25) x.1 d_Code_characterOf_16 (by decide) (by omega) (by omega) (fun hc16 => ?_) (fun hc16 => ?_)
                · refine dz_iinc (z := 8) (ls' := [(0, .int (dz_i q)), (1, .int (dz_i 8))]) x.1 1 d_Code_characterOf_25 rfl hN (by decide) (by omega) rfl ?_
                  refine dz_goto (tgt := 2) x.1 d_Code_characterOf_28 (by decide) ?_
                  refine dz_iload_n x.1 1 d_Code_characterOf_2 rfl rfl ?_
                  refine ly_getsL x sl_Code_32 d_Code_characterOf_3 ?_
                  refine ly_tlnL x d_Code_characterOf_6 ?_
                  refine dz_icmp_ge (tgt := 31) x.1 d_Code_characterOf_7 (by decide) (by omega) (by omega) (fun hc17 => by exfalso; omega) (fun hc17 => ?_)
                  refine ly_getsL x sl_Code_32 d_Code_characterOf_10 ?_
                  refine dz_iload_n x.1 1 d_Code_characterOf_13 rfl rfl ?_
                  refine ly_tldcL (w := 10) x (by omega) (by decide) d_Code_characterOf_14 ?_
                  refine dz_iload_n x.1 0 d_Code_characterOf_15 rfl rfl ?_
                  refine dz_icmp_ne (tgt := 25) x.1 d_Code_characterOf_16 (by decide) (by omega) (by omega) (fun hc18 => ?_) (fun hc18 => ?_)
                  · refine dz_iinc (z := 9) (ls' := [(0, .int (dz_i q)), (1, .int (dz_i 9))]) x.1 1 d_Code_characterOf_25 rfl hN (by decide) (by omega) rfl ?_
                    refine dz_goto (tgt := 2) x.1 d_Code_characterOf_28 (by decide) ?_
                    refine dz_iload_n x.1 1 d_Code_characterOf_2 rfl rfl ?_
                    refine ly_getsL x sl_Code_32 d_Code_characterOf_3 ?_
                    refine ly_tlnL x d_Code_characterOf_6 ?_
                    refine dz_icmp_ge (tgt := 31) x.1 d_Code_characterOf_7 (by decide) (by omega) (by omega) (fun hc19 => by exfalso; omega) (fun hc19 => ?_)
                    refine ly_getsL x sl_Code_32 d_Code_characterOf_10 ?_
                    refine dz_iload_n x.1 1 d_Code_characterOf_13 rfl rfl ?_
                    refine ly_tldcL (w := 26) x (by omega) (by decide) d_Code_characterOf_14 ?_
                    refine dz_iload_n x.1 0 d_Code_characterOf_15 rfl rfl ?_
                    refine dz_icmp_ne (tgt := 25) x.1 d_Code_characterOf_16 (by decide) (by omega) (by omega) (fun hc20 => ?_) (fun hc20 => ?_)
                    · refine dz_iinc (z := 10) (ls' := [(0, .int (dz_i q)), (1, .int (dz_i 10))]) x.1 1 d_Code_characterOf_25 rfl hN (by decide) (by omega) rfl ?_
                      refine dz_goto (tgt := 2) x.1 d_Code_characterOf_28 (by decide) ?_
                      refine dz_iload_n x.1 1 d_Code_characterOf_2 rfl rfl ?_
                      refine ly_getsL x sl_Code_32 d_Code_characterOf_3 ?_
                      refine ly_tlnL x d_Code_characterOf_6 ?_
                      refine dz_icmp_ge (tgt := 31) x.1 d_Code_characterOf_7 (by decide) (by omega) (by omega) (fun hc21 => by exfalso; omega) (fun hc21 => ?_)
                      refine ly_getsL x sl_Code_32 d_Code_characterOf_10 ?_
                      refine dz_iload_n x.1 1 d_Code_characterOf_13 rfl rfl ?_
                      refine ly_tldcL (w := 5) x (by omega) (by decide) d_Code_characterOf_14 ?_
                      refine dz_iload_n x.1 0 d_Code_characterOf_15 rfl rfl ?_
                      refine dz_icmp_ne (tgt := 25) x.1 d_Code_characterOf_16 (by decide) (by omega) (by omega) (fun hc22 => ?_) (fun hc22 => ?_)
                      · refine dz_iinc (z := 11) (ls' := [(0, .int (dz_i q)), (1, .int (dz_i 11))]) x.1 1 d_Code_characterOf_25 rfl hN (by decide) (by omega) rfl ?_
                        refine dz_goto (tgt := 2) x.1 d_Code_characterOf_28 (by decide) ?_
                        refine dz_iload_n x.1 1 d_Code_characterOf_2 rfl rfl ?_
                        refine ly_getsL x sl_Code_32 d_Code_characterOf_3 ?_
                        refine ly_tlnL x d_Code_characterOf_6 ?_
                        refine dz_icmp_ge (tgt := 31) x.1 d_Code_characterOf_7 (by decide) (by omega) (by omega) (fun hc23 => by exfalso; omega) (fun hc23 => ?_)
                        refine ly_getsL x sl_Code_32 d_Code_characterOf_10 ?_
                        refine dz_iload_n x.1 1 d_Code_characterOf_13 rfl rfl ?_
                        refine ly_tldcL (w := 7) x (by omega) (by decide) d_Code_characterOf_14 ?_
                        refine dz_iload_n x.1 0 d_Code_characterOf_15 rfl rfl ?_
                        refine dz_icmp_ne (tgt := 25) x.1 d_Code_characterOf_16 (by decide) (by omega) (by omega) (fun hc24 => ?_) (fun hc24 => ?_)
                        · refine dz_iinc (z := 12) (ls' := [(0, .int (dz_i q)), (1, .int (dz_i 12))]) x.1 1 d_Code_characterOf_25 rfl hN (by decide) (by omega) rfl ?_
                          refine dz_goto (tgt := 2) x.1 d_Code_characterOf_28 (by decide) ?_
                          refine dz_iload_n x.1 1 d_Code_characterOf_2 rfl rfl ?_
                          refine ly_getsL x sl_Code_32 d_Code_characterOf_3 ?_
                          refine ly_tlnL x d_Code_characterOf_6 ?_
                          refine dz_icmp_ge (tgt := 31) x.1 d_Code_characterOf_7 (by decide) (by omega) (by omega) (fun hc25 => by exfalso; omega) (fun hc25 => ?_)
                          refine ly_getsL x sl_Code_32 d_Code_characterOf_10 ?_
                          refine dz_iload_n x.1 1 d_Code_characterOf_13 rfl rfl ?_
                          refine ly_tldcL (w := 13) x (by omega) (by decide) d_Code_characterOf_14 ?_
                          refine dz_iload_n x.1 0 d_Code_characterOf_15 rfl rfl ?_
                          refine dz_icmp_ne (tgt := 25) x.1 d_Code_characterOf_16 (by decide) (by omega) (by omega) (fun hc26 => ?_) (fun hc26 => ?_)
                          · refine dz_iinc (z := 13) (ls' := [(0, .int (dz_i q)), (1, .int (dz_i 13))]) x.1 1 d_Code_characterOf_25 rfl hN (by decide) (by omega) rfl ?_
                            refine dz_goto (tgt := 2) x.1 d_Code_characterOf_28 (by decide) ?_
                            refine dz_iload_n x.1 1 d_Code_characterOf_2 rfl rfl ?_
                            refine ly_getsL x sl_Code_32 d_Code_characterOf_3 ?_
                            refine ly_tlnL x d_Code_characterOf_6 ?_
                            refine dz_icmp_ge (tgt := 31) x.1 d_Code_characterOf_7 (by decide) (by omega) (by omega) (fun hc27 => by exfalso; omega) (fun hc27 => ?_)
                            refine ly_getsL x sl_Code_32 d_Code_characterOf_10 ?_
                            refine dz_iload_n x.1 1 d_Code_characterOf_13 rfl rfl ?_
                            refine ly_tldcL (w := 29) x (by omega) (by decide) d_Code_characterOf_14 ?_
                            refine dz_iload_n x.1 0 d_Code_characterOf_15 rfl rfl ?_
                            refine dz_icmp_ne (tgt := 25) x.1 d_Code_characterOf_16 (by decide) (by omega) (by omega) (fun hc28 => ?_) (fun hc28 => ?_)
                            · refine dz_iinc (z := 14) (ls' := [(0, .int (dz_i q)), (1, .int (dz_i 14))]) x.1 1 d_Code_characterOf_25 rfl hN (by decide) (by omega) rfl ?_
                              refine dz_goto (tgt := 2) x.1 d_Code_characterOf_28 (by decide) ?_
                              refine dz_iload_n x.1 1 d_Code_characterOf_2 rfl rfl ?_
                              refine ly_getsL x sl_Code_32 d_Code_characterOf_3 ?_
                              refine ly_tlnL x d_Code_characterOf_6 ?_
                              refine dz_icmp_ge (tgt := 31) x.1 d_Code_characterOf_7 (by decide) (by omega) (by omega) (fun hc29 => by exfalso; omega) (fun hc29 => ?_)
                              refine ly_getsL x sl_Code_32 d_Code_characterOf_10 ?_
                              refine dz_iload_n x.1 1 d_Code_characterOf_13 rfl rfl ?_
                              refine ly_tldcL (w := 21) x (by omega) (by decide) d_Code_characterOf_14 ?_
                              refine dz_iload_n x.1 0 d_Code_characterOf_15 rfl rfl ?_
                              refine dz_icmp_ne (tgt := 25) x.1 d_Code_characterOf_16 (by decide) (by omega) (by omega) (fun hc30 => ?_) (fun hc30 => ?_)
                              · refine dz_iinc (z := 15) (ls' := [(0, .int (dz_i q)), (1, .int (dz_i 15))]) x.1 1 d_Code_characterOf_25 rfl hN (by decide) (by omega) rfl ?_
                                refine dz_goto (tgt := 2) x.1 d_Code_characterOf_28 (by decide) ?_
                                refine dz_iload_n x.1 1 d_Code_characterOf_2 rfl rfl ?_
                                refine ly_getsL x sl_Code_32 d_Code_characterOf_3 ?_
                                refine ly_tlnL x d_Code_characterOf_6 ?_
                                refine dz_icmp_ge (tgt := 31) x.1 d_Code_characterOf_7 (by decide) (by omega) (by omega) (fun hc31 => by exfalso; omega) (fun hc31 => ?_)
                                refine ly_getsL x sl_Code_32 d_Code_characterOf_10 ?_
                                refine dz_iload_n x.1 1 d_Code_characterOf_13 rfl rfl ?_
                                refine ly_tldcL (w := 15) x (by omega) (by decide) d_Code_characterOf_14 ?_
                                refine dz_iload_n x.1 0 d_Code_characterOf_15 rfl rfl ?_
                                refine dz_icmp_ne (tgt := 25) x.1 d_Code_characterOf_16 (by decide) (by omega) (by omega) (fun hc32 => ?_) (fun hc32 => ?_)
                                · refine dz_iinc (z := 16) (ls' := [(0, .int (dz_i q)), (1, .int (dz_i 16))]) x.1 1 d_Code_characterOf_25 rfl hN (by decide) (by omega) rfl ?_
                                  refine dz_goto (tgt := 2) x.1 d_Code_characterOf_28 (by decide) ?_
                                  refine dz_iload_n x.1 1 d_Code_characterOf_2 rfl rfl ?_
                                  refine ly_getsL x sl_Code_32 d_Code_characterOf_3 ?_
                                  refine ly_tlnL x d_Code_characterOf_6 ?_
                                  refine dz_icmp_ge (tgt := 31) x.1 d_Code_characterOf_7 (by decide) (by omega) (by omega) (fun hc33 => by exfalso; omega) (fun hc33 => ?_)
                                  refine ly_getsL x sl_Code_32 d_Code_characterOf_10 ?_
                                  refine dz_iload_n x.1 1 d_Code_characterOf_13 rfl rfl ?_
                                  refine ly_tldcL (w := 31) x (by omega) (by decide) d_Code_characterOf_14 ?_
                                  refine dz_iload_n x.1 0 d_Code_characterOf_15 rfl rfl ?_
                                  refine dz_icmp_ne (tgt := 25) x.1 d_Code_characterOf_16 (by decide) (by omega) (by omega) (fun hc34 => ?_) (fun hc34 => ?_)
                                  · refine dz_iinc (z := 17) (ls' := [(0, .int (dz_i q)), (1, .int (dz_i 17))]) x.1 1 d_Code_characterOf_25 rfl hN (by decide) (by omega) rfl ?_
                                    refine dz_goto (tgt := 2) x.1 d_Code_characterOf_28 (by decide) ?_
                                    refine dz_iload_n x.1 1 d_Code_characterOf_2 rfl rfl ?_
                                    refine ly_getsL x sl_Code_32 d_Code_characterOf_3 ?_
                                    refine ly_tlnL x d_Code_characterOf_6 ?_
                                    refine dz_icmp_ge (tgt := 31) x.1 d_Code_characterOf_7 (by decide) (by omega) (by omega) (fun hc35 => by exfalso; omega) (fun hc35 => ?_)
                                    refine ly_getsL x sl_Code_32 d_Code_characterOf_10 ?_
                                    refine dz_iload_n x.1 1 d_Code_characterOf_13 rfl rfl ?_
                                    refine ly_tldcL (w := 23) x (by omega) (by decide) d_Code_characterOf_14 ?_
                                    refine dz_iload_n x.1 0 d_Code_characterOf_15 rfl rfl ?_
                                    refine dz_icmp_ne (tgt := 25) x.1 d_Code_characterOf_16 (by decide) (by omega) (by omega) (fun hc36 => ?_) (fun hc36 => ?_)
                                    · refine dz_iinc (z := 18) (ls' := [(0, .int (dz_i q)), (1, .int (dz_i 18))]) x.1 1 d_Code_characterOf_25 rfl hN (by decide) (by omega) rfl ?_
                                      refine dz_goto (tgt := 2) x.1 d_Code_characterOf_28 (by decide) ?_
                                      refine dz_iload_n x.1 1 d_Code_characterOf_2 rfl rfl ?_
                                      refine ly_getsL x sl_Code_32 d_Code_characterOf_3 ?_
                                      refine ly_tlnL x d_Code_characterOf_6 ?_
                                      refine dz_icmp_ge (tgt := 31) x.1 d_Code_characterOf_7 (by decide) (by omega) (by omega) (fun hc37 => by exfalso; omega) (fun hc37 => ?_)
                                      refine ly_getsL x sl_Code_32 d_Code_characterOf_10 ?_
                                      refine dz_iload_n x.1 1 d_Code_characterOf_13 rfl rfl ?_
                                      refine ly_tldcL (w := 14) x (by omega) (by decide) d_Code_characterOf_14 ?_
                                      refine dz_iload_n x.1 0 d_Code_characterOf_15 rfl rfl ?_
                                      refine dz_icmp_ne (tgt := 25) x.1 d_Code_characterOf_16 (by decide) (by omega) (by omega) (fun hc38 => ?_) (fun hc38 => ?_)
                                      · refine dz_iinc (z := 19) (ls' := [(0, .int (dz_i q)), (1, .int (dz_i 19))]) x.1 1 d_Code_characterOf_25 rfl hN (by decide) (by omega) rfl ?_
                                        refine dz_goto (tgt := 2) x.1 d_Code_characterOf_28 (by decide) ?_
                                        refine dz_iload_n x.1 1 d_Code_characterOf_2 rfl rfl ?_
                                        refine ly_getsL x sl_Code_32 d_Code_characterOf_3 ?_
                                        refine ly_tlnL x d_Code_characterOf_6 ?_
                                        refine dz_icmp_ge (tgt := 31) x.1 d_Code_characterOf_7 (by decide) (by omega) (by omega) (fun hc39 => by exfalso; omega) (fun hc39 => ?_)
                                        refine ly_getsL x sl_Code_32 d_Code_characterOf_10 ?_
                                        refine dz_iload_n x.1 1 d_Code_characterOf_13 rfl rfl ?_
                                        refine ly_tldcL (w := 30) x (by omega) (by decide) d_Code_characterOf_14 ?_
                                        refine dz_iload_n x.1 0 d_Code_characterOf_15 rfl rfl ?_
                                        refine dz_icmp_ne (tgt := 25) x.1 d_Code_characterOf_16 (by decide) (by omega) (by omega) (fun hc40 => ?_) (fun hc40 => ?_)
                                        · refine dz_iinc (z := 20) (ls' := [(0, .int (dz_i q)), (1, .int (dz_i 20))]) x.1 1 d_Code_characterOf_25 rfl hN (by decide) (by omega) rfl ?_
                                          refine dz_goto (tgt := 2) x.1 d_Code_characterOf_28 (by decide) ?_
                                          refine dz_iload_n x.1 1 d_Code_characterOf_2 rfl rfl ?_
                                          refine ly_getsL x sl_Code_32 d_Code_characterOf_3 ?_
                                          refine ly_tlnL x d_Code_characterOf_6 ?_
                                          refine dz_icmp_ge (tgt := 31) x.1 d_Code_characterOf_7 (by decide) (by omega) (by omega) (fun hc41 => by exfalso; omega) (fun hc41 => ?_)
                                          refine ly_getsL x sl_Code_32 d_Code_characterOf_10 ?_
                                          refine dz_iload_n x.1 1 d_Code_characterOf_13 rfl rfl ?_
                                          refine ly_tldcL (w := 37) x (by omega) (by decide) d_Code_characterOf_14 ?_
                                          refine dz_iload_n x.1 0 d_Code_characterOf_15 rfl rfl ?_
                                          refine dz_icmp_ne (tgt := 25) x.1 d_Code_characterOf_16 (by decide) (by omega) (by omega) (fun hc42 => ?_) (fun hc42 => ?_)
                                          · refine dz_iinc (z := 21) (ls' := [(0, .int (dz_i q)), (1, .int (dz_i 21))]) x.1 1 d_Code_characterOf_25 rfl hN (by decide) (by omega) rfl ?_
                                            refine dz_goto (tgt := 2) x.1 d_Code_characterOf_28 (by decide) ?_
                                            refine dz_iload_n x.1 1 d_Code_characterOf_2 rfl rfl ?_
                                            refine ly_getsL x sl_Code_32 d_Code_characterOf_3 ?_
                                            refine ly_tlnL x d_Code_characterOf_6 ?_
                                            refine dz_icmp_ge (tgt := 31) x.1 d_Code_characterOf_7 (by decide) (by omega) (by omega) (fun hc43 => by exfalso; omega) (fun hc43 => ?_)
                                            refine ly_getsL x sl_Code_32 d_Code_characterOf_10 ?_
                                            refine dz_iload_n x.1 1 d_Code_characterOf_13 rfl rfl ?_
                                            refine ly_tldcL (w := 39) x (by omega) (by decide) d_Code_characterOf_14 ?_
                                            refine dz_iload_n x.1 0 d_Code_characterOf_15 rfl rfl ?_
                                            refine dz_icmp_ne (tgt := 25) x.1 d_Code_characterOf_16 (by decide) (by omega) (by omega) (fun hc44 => ?_) (fun hc44 => ?_)
                                            · refine dz_iinc (z := 22) (ls' := [(0, .int (dz_i q)), (1, .int (dz_i 22))]) x.1 1 d_Code_characterOf_25 rfl hN (by decide) (by omega) rfl ?_
                                              refine dz_goto (tgt := 2) x.1 d_Code_characterOf_28 (by decide) ?_
                                              refine dz_iload_n x.1 1 d_Code_characterOf_2 rfl rfl ?_
                                              refine ly_getsL x sl_Code_32 d_Code_characterOf_3 ?_
                                              refine ly_tlnL x d_Code_characterOf_6 ?_
                                              refine dz_icmp_ge (tgt := 31) x.1 d_Code_characterOf_7 (by decide) (by omega) (by omega) (fun hc45 => by exfalso; omega) (fun hc45 => ?_)
                                              refine ly_getsL x sl_Code_32 d_Code_characterOf_10 ?_
                                              refine dz_iload_n x.1 1 d_Code_characterOf_13 rfl rfl ?_
                                              refine ly_tldcL (w := 58) x (by omega) (by decide) d_Code_characterOf_14 ?_
                                              refine dz_iload_n x.1 0 d_Code_characterOf_15 rfl rfl ?_
                                              refine dz_icmp_ne (tgt := 25) x.1 d_Code_characterOf_16 (by decide) (by omega) (by omega) (fun hc46 => ?_) (fun hc46 => ?_)
                                              · refine dz_iinc (z := 23) (ls' := [(0, .int (dz_i q)), (1, .int (dz_i 23))]) x.1 1 d_Code_characterOf_25 rfl hN (by decide) (by omega) rfl ?_
                                                refine dz_goto (tgt := 2) x.1 d_Code_characterOf_28 (by decide) ?_
                                                refine dz_iload_n x.1 1 d_Code_characterOf_2 rfl rfl ?_
                                                refine ly_getsL x sl_Code_32 d_Code_characterOf_3 ?_
                                                refine ly_tlnL x d_Code_characterOf_6 ?_
                                                refine dz_icmp_ge (tgt := 31) x.1 d_Code_characterOf_7 (by decide) (by omega) (by omega) (fun hc47 => by exfalso; omega) (fun hc47 => ?_)
                                                refine ly_getsL x sl_Code_32 d_Code_characterOf_10 ?_
                                                refine dz_iload_n x.1 1 d_Code_characterOf_13 rfl rfl ?_
                                                refine ly_tldcL (w := 45) x (by omega) (by decide) d_Code_characterOf_14 ?_
                                                refine dz_iload_n x.1 0 d_Code_characterOf_15 rfl rfl ?_
                                                refine dz_icmp_ne (tgt := 25) x.1 d_Code_characterOf_16 (by decide) (by omega) (by omega) (fun hc48 => ?_) (fun hc48 => ?_)
                                                · refine dz_iinc (z := 24) (ls' := [(0, .int (dz_i q)), (1, .int (dz_i 24))]) x.1 1 d_Code_characterOf_25 rfl hN (by decide) (by omega) rfl ?_
                                                  refine dz_goto (tgt := 2) x.1 d_Code_characterOf_28 (by decide) ?_
                                                  refine dz_iload_n x.1 1 d_Code_characterOf_2 rfl rfl ?_
                                                  refine ly_getsL x sl_Code_32 d_Code_characterOf_3 ?_
                                                  refine ly_tlnL x d_Code_characterOf_6 ?_
                                                  refine dz_icmp_ge (tgt := 31) x.1 d_Code_characterOf_7 (by decide) (by omega) (by omega) (fun hc49 => by exfalso; omega) (fun hc49 => ?_)
                                                  refine ly_getsL x sl_Code_32 d_Code_characterOf_10 ?_
                                                  refine dz_iload_n x.1 1 d_Code_characterOf_13 rfl rfl ?_
                                                  refine ly_tldcL (w := 61) x (by omega) (by decide) d_Code_characterOf_14 ?_
                                                  refine dz_iload_n x.1 0 d_Code_characterOf_15 rfl rfl ?_
                                                  refine dz_icmp_ne (tgt := 25) x.1 d_Code_characterOf_16 (by decide) (by omega) (by omega) (fun hc50 => ?_) (fun hc50 => ?_)
                                                  · refine dz_iinc (z := 25) (ls' := [(0, .int (dz_i q)), (1, .int (dz_i 25))]) x.1 1 d_Code_characterOf_25 rfl hN (by decide) (by omega) rfl ?_
                                                    refine dz_goto (tgt := 2) x.1 d_Code_characterOf_28 (by decide) ?_
                                                    refine dz_iload_n x.1 1 d_Code_characterOf_2 rfl rfl ?_
                                                    refine ly_getsL x sl_Code_32 d_Code_characterOf_3 ?_
                                                    refine ly_tlnL x d_Code_characterOf_6 ?_
                                                    refine dz_icmp_ge (tgt := 31) x.1 d_Code_characterOf_7 (by decide) (by omega) (by omega) (fun hc51 => by exfalso; omega) (fun hc51 => ?_)
                                                    refine ly_getsL x sl_Code_32 d_Code_characterOf_10 ?_
                                                    refine dz_iload_n x.1 1 d_Code_characterOf_13 rfl rfl ?_
                                                    refine ly_tldcL (w := 53) x (by omega) (by decide) d_Code_characterOf_14 ?_
                                                    refine dz_iload_n x.1 0 d_Code_characterOf_15 rfl rfl ?_
                                                    refine dz_icmp_ne (tgt := 25) x.1 d_Code_characterOf_16 (by decide) (by omega) (by omega) (fun hc52 => ?_) (fun hc52 => ?_)
                                                    · refine dz_iinc (z := 26) (ls' := [(0, .int (dz_i q)), (1, .int (dz_i 26))]) x.1 1 d_Code_characterOf_25 rfl hN (by decide) (by omega) rfl ?_
                                                      refine dz_goto (tgt := 2) x.1 d_Code_characterOf_28 (by decide) ?_
                                                      refine dz_iload_n x.1 1 d_Code_characterOf_2 rfl rfl ?_
                                                      refine ly_getsL x sl_Code_32 d_Code_characterOf_3 ?_
                                                      refine ly_tlnL x d_Code_characterOf_6 ?_
                                                      refine dz_icmp_ge (tgt := 31) x.1 d_Code_characterOf_7 (by decide) (by omega) (by omega) (fun hc53 => ?_) (fun hc53 => by exfalso; omega)
                                                      refine dz_iconst x.1 d_Code_characterOf_31 ?_
                                                      refine dz_istore_n (ls' := [(0, .int (dz_i q)), (1, .int (dz_i 0))]) x.1 d_Code_characterOf_32 rfl hN (by decide) rfl ?_
                                                      refine dz_iload_n x.1 1 d_Code_characterOf_33 rfl rfl ?_
                                                      refine ly_getsM x sl_Code_40 d_Code_characterOf_34 ?_
                                                      refine ly_tlnM x d_Code_characterOf_37 ?_
                                                      refine dz_icmp_ge (tgt := 63) x.1 d_Code_characterOf_38 (by decide) (by omega) (by omega) (fun hc54 => by exfalso; omega) (fun hc54 => ?_)
                                                      refine ly_getsM x sl_Code_40 d_Code_characterOf_41 ?_
                                                      refine dz_iload_n x.1 1 d_Code_characterOf_44 rfl rfl ?_
                                                      refine ly_tldcM (w := 50) x (by omega) (by decide) d_Code_characterOf_45 ?_
                                                      refine dz_iload_n x.1 0 d_Code_characterOf_46 rfl rfl ?_
                                                      refine dz_icmp_ne (tgt := 57) x.1 d_Code_characterOf_47 (by decide) (by omega) (by omega) (fun hc55 => ?_) (fun hc55 => ?_)
                                                      · refine dz_iinc (z := 1) (ls' := [(0, .int (dz_i q)), (1, .int (dz_i 1))]) x.1 1 d_Code_characterOf_57 rfl hN (by decide) (by omega) rfl ?_
                                                        refine dz_goto (tgt := 33) x.1 d_Code_characterOf_60 (by decide) ?_
                                                        refine dz_iload_n x.1 1 d_Code_characterOf_33 rfl rfl ?_
                                                        refine ly_getsM x sl_Code_40 d_Code_characterOf_34 ?_
                                                        refine ly_tlnM x d_Code_characterOf_37 ?_
                                                        refine dz_icmp_ge (tgt := 63) x.1 d_Code_characterOf_38 (by decide) (by omega) (by omega) (fun hc56 => by exfalso; omega) (fun hc56 => ?_)
                                                        refine ly_getsM x sl_Code_40 d_Code_characterOf_41 ?_
                                                        refine dz_iload_n x.1 1 d_Code_characterOf_44 rfl rfl ?_
                                                        refine ly_tldcM (w := 2) x (by omega) (by decide) d_Code_characterOf_45 ?_
                                                        refine dz_iload_n x.1 0 d_Code_characterOf_46 rfl rfl ?_
                                                        refine dz_icmp_ne (tgt := 57) x.1 d_Code_characterOf_47 (by decide) (by omega) (by omega) (fun hc57 => ?_) (fun hc57 => ?_)
                                                        · refine dz_iinc (z := 2) (ls' := [(0, .int (dz_i q)), (1, .int (dz_i 2))]) x.1 1 d_Code_characterOf_57 rfl hN (by decide) (by omega) rfl ?_
                                                          refine dz_goto (tgt := 33) x.1 d_Code_characterOf_60 (by decide) ?_
                                                          refine dz_iload_n x.1 1 d_Code_characterOf_33 rfl rfl ?_
                                                          refine ly_getsM x sl_Code_40 d_Code_characterOf_34 ?_
                                                          refine ly_tlnM x d_Code_characterOf_37 ?_
                                                          refine dz_icmp_ge (tgt := 63) x.1 d_Code_characterOf_38 (by decide) (by omega) (by omega) (fun hc58 => by exfalso; omega) (fun hc58 => ?_)
                                                          refine ly_getsM x sl_Code_40 d_Code_characterOf_41 ?_
                                                          refine dz_iload_n x.1 1 d_Code_characterOf_44 rfl rfl ?_
                                                          refine ly_tldcM (w := 6) x (by omega) (by decide) d_Code_characterOf_45 ?_
                                                          refine dz_iload_n x.1 0 d_Code_characterOf_46 rfl rfl ?_
                                                          refine dz_icmp_ne (tgt := 57) x.1 d_Code_characterOf_47 (by decide) (by omega) (by omega) (fun hc59 => ?_) (fun hc59 => ?_)
                                                          · refine dz_iinc (z := 3) (ls' := [(0, .int (dz_i q)), (1, .int (dz_i 3))]) x.1 1 d_Code_characterOf_57 rfl hN (by decide) (by omega) rfl ?_
                                                            refine dz_goto (tgt := 33) x.1 d_Code_characterOf_60 (by decide) ?_
                                                            refine dz_iload_n x.1 1 d_Code_characterOf_33 rfl rfl ?_
                                                            refine ly_getsM x sl_Code_40 d_Code_characterOf_34 ?_
                                                            refine ly_tlnM x d_Code_characterOf_37 ?_
                                                            refine dz_icmp_ge (tgt := 63) x.1 d_Code_characterOf_38 (by decide) (by omega) (by omega) (fun hc60 => by exfalso; omega) (fun hc60 => ?_)
                                                            refine ly_getsM x sl_Code_40 d_Code_characterOf_41 ?_
                                                            refine dz_iload_n x.1 1 d_Code_characterOf_44 rfl rfl ?_
                                                            refine ly_tldcM (w := 18) x (by omega) (by decide) d_Code_characterOf_45 ?_
                                                            refine dz_iload_n x.1 0 d_Code_characterOf_46 rfl rfl ?_
                                                            refine dz_icmp_ne (tgt := 57) x.1 d_Code_characterOf_47 (by decide) (by omega) (by omega) (fun hc61 => ?_) (fun hc61 => ?_)
                                                            · refine dz_iinc (z := 4) (ls' := [(0, .int (dz_i q)), (1, .int (dz_i 4))]) x.1 1 d_Code_characterOf_57 rfl hN (by decide) (by omega) rfl ?_
                                                              refine dz_goto (tgt := 33) x.1 d_Code_characterOf_60 (by decide) ?_
                                                              refine dz_iload_n x.1 1 d_Code_characterOf_33 rfl rfl ?_
                                                              refine ly_getsM x sl_Code_40 d_Code_characterOf_34 ?_
                                                              refine ly_tlnM x d_Code_characterOf_37 ?_
                                                              refine dz_icmp_ge (tgt := 63) x.1 d_Code_characterOf_38 (by decide) (by omega) (by omega) (fun hc62 => by exfalso; omega) (fun hc62 => ?_)
                                                              refine ly_getsM x sl_Code_40 d_Code_characterOf_41 ?_
                                                              refine dz_iload_n x.1 1 d_Code_characterOf_44 rfl rfl ?_
                                                              refine ly_tldcM (w := 38) x (by omega) (by decide) d_Code_characterOf_45 ?_
                                                              refine dz_iload_n x.1 0 d_Code_characterOf_46 rfl rfl ?_
                                                              refine dz_icmp_ne (tgt := 57) x.1 d_Code_characterOf_47 (by decide) (by omega) (by omega) (fun hc63 => ?_) (fun hc63 => ?_)
                                                              · refine dz_iinc (z := 5) (ls' := [(0, .int (dz_i q)), (1, .int (dz_i 5))]) x.1 1 d_Code_characterOf_57 rfl hN (by decide) (by omega) rfl ?_
                                                                refine dz_goto (tgt := 33) x.1 d_Code_characterOf_60 (by decide) ?_
                                                                refine dz_iload_n x.1 1 d_Code_characterOf_33 rfl rfl ?_
                                                                refine ly_getsM x sl_Code_40 d_Code_characterOf_34 ?_
                                                                refine ly_tlnM x d_Code_characterOf_37 ?_
                                                                refine dz_icmp_ge (tgt := 63) x.1 d_Code_characterOf_38 (by decide) (by omega) (by omega) (fun hc64 => by exfalso; omega) (fun hc64 => ?_)
                                                                refine ly_getsM x sl_Code_40 d_Code_characterOf_41 ?_
                                                                refine dz_iload_n x.1 1 d_Code_characterOf_44 rfl rfl ?_
                                                                refine ly_tldcM (w := 22) x (by omega) (by decide) d_Code_characterOf_45 ?_
                                                                refine dz_iload_n x.1 0 d_Code_characterOf_46 rfl rfl ?_
                                                                refine dz_icmp_ne (tgt := 57) x.1 d_Code_characterOf_47 (by decide) (by omega) (by omega) (fun hc65 => ?_) (fun hc65 => ?_)
                                                                · refine dz_iinc (z := 6) (ls' := [(0, .int (dz_i q)), (1, .int (dz_i 6))]) x.1 1 d_Code_characterOf_57 rfl hN (by decide) (by omega) rfl ?_
                                                                  refine dz_goto (tgt := 33) x.1 d_Code_characterOf_60 (by decide) ?_
                                                                  refine dz_iload_n x.1 1 d_Code_characterOf_33 rfl rfl ?_
                                                                  refine ly_getsM x sl_Code_40 d_Code_characterOf_34 ?_
                                                                  refine ly_tlnM x d_Code_characterOf_37 ?_
                                                                  refine dz_icmp_ge (tgt := 63) x.1 d_Code_characterOf_38 (by decide) (by omega) (by omega) (fun hc66 => by exfalso; omega) (fun hc66 => ?_)
                                                                  refine ly_getsM x sl_Code_40 d_Code_characterOf_41 ?_
                                                                  refine dz_iload_n x.1 1 d_Code_characterOf_44 rfl rfl ?_
                                                                  refine ly_tldcM (w := 36) x (by omega) (by decide) d_Code_characterOf_45 ?_
                                                                  refine dz_iload_n x.1 0 d_Code_characterOf_46 rfl rfl ?_
                                                                  refine dz_icmp_ne (tgt := 57) x.1 d_Code_characterOf_47 (by decide) (by omega) (by omega) (fun hc67 => ?_) (fun hc67 => ?_)
                                                                  · refine dz_iinc (z := 7) (ls' := [(0, .int (dz_i q)), (1, .int (dz_i 7))]) x.1 1 d_Code_characterOf_57 rfl hN (by decide) (by omega) rfl ?_
                                                                    refine dz_goto (tgt := 33) x.1 d_Code_characterOf_60 (by decide) ?_
                                                                    refine dz_iload_n x.1 1 d_Code_characterOf_33 rfl rfl ?_
                                                                    refine ly_getsM x sl_Code_40 d_Code_characterOf_34 ?_
                                                                    refine ly_tlnM x d_Code_characterOf_37 ?_
                                                                    refine dz_icmp_ge (tgt := 63) x.1 d_Code_characterOf_38 (by decide) (by omega) (by omega) (fun hc68 => by exfalso; omega) (fun hc68 => ?_)
                                                                    refine ly_getsM x sl_Code_40 d_Code_characterOf_41 ?_
                                                                    refine dz_iload_n x.1 1 d_Code_characterOf_44 rfl rfl ?_
                                                                    refine ly_tldcM (w := 4) x (by omega) (by decide) d_Code_characterOf_45 ?_
                                                                    refine dz_iload_n x.1 0 d_Code_characterOf_46 rfl rfl ?_
                                                                    refine dz_icmp_ne (tgt := 57) x.1 d_Code_characterOf_47 (by decide) (by omega) (by omega) (fun hc69 => ?_) (fun hc69 => ?_)
                                                                    · refine dz_iinc (z := 8) (ls' := [(0, .int (dz_i q)), (1, .int (dz_i 8))]) x.1 1 d_Code_characterOf_57 rfl hN (by decide) (by omega) rfl ?_
                                                                      refine dz_goto (tgt := 33) x.1 d_Code_characterOf_60 (by decide) ?_
                                                                      refine dz_iload_n x.1 1 d_Code_characterOf_33 rfl rfl ?_
                                                                      refine ly_getsM x sl_Code_40 d_Code_characterOf_34 ?_
                                                                      refine ly_tlnM x d_Code_characterOf_37 ?_
                                                                      refine dz_icmp_ge (tgt := 63) x.1 d_Code_characterOf_38 (by decide) (by omega) (by omega) (fun hc70 => ?_) (fun hc70 => by exfalso; omega)
                                                                      refine dz_bipush x.1 d_Code_characterOf_63 (by decide) ?_
                                                                      exact ly_iret x d_Code_characterOf_65 (dz_nch (by omega)) ⟨by rw [sp_chr_no hx (by omega)], rfl⟩
                                                                    · refine ly_ldc1 x d_Code_characterOf_50 ?_
                                                                      show ly_V κ b sz I 52 [(0, .int (dz_i q)), (1, .int (dz_i 7))] [.ref (Dt (100 + 1))]
                                                                      refine dz_iload_n x.1 1 d_Code_characterOf_52 rfl rfl ?_
                                                                      refine ly_callT (i := 1) (rest := []) x cl_Code_43 (by decide) (c_JStr_charAt l D Dt b sz I 7 (by omega)) (by decide) rfl rfl rfl (Nat.le_of_ble_eq_true rfl) d_Code_characterOf_53 (fun v I' hp71 => ?_)
                                                                      obtain ⟨rfl, hp71I⟩ := hp71
                                                                      have hp71I := hp71I.symm
                                                                      subst hp71I
                                                                      have hsb := sp_sb_rng 1 (by decide) 7
                                                                      show ly_V κ b sz I 56 [(0, .int (dz_i q)), (1, .int (dz_i 7))] [.int (dz_i (sp_sb 1 7))]
                                                                      exact ly_iret x d_Code_characterOf_56 (dz_nch (by omega)) ⟨sp_chr_f (k := 4) (by omega) (by decide), rfl⟩
                                                                  · refine ly_ldc1 x d_Code_characterOf_50 ?_
                                                                    show ly_V κ b sz I 52 [(0, .int (dz_i q)), (1, .int (dz_i 6))] [.ref (Dt (100 + 1))]
                                                                    refine dz_iload_n x.1 1 d_Code_characterOf_52 rfl rfl ?_
                                                                    refine ly_callT (i := 1) (rest := []) x cl_Code_43 (by decide) (c_JStr_charAt l D Dt b sz I 6 (by omega)) (by decide) rfl rfl rfl (Nat.le_of_ble_eq_true rfl) d_Code_characterOf_53 (fun v I' hp72 => ?_)
                                                                    obtain ⟨rfl, hp72I⟩ := hp72
                                                                    have hp72I := hp72I.symm
                                                                    subst hp72I
                                                                    have hsb := sp_sb_rng 1 (by decide) 6
                                                                    show ly_V κ b sz I 56 [(0, .int (dz_i q)), (1, .int (dz_i 6))] [.int (dz_i (sp_sb 1 6))]
                                                                    exact ly_iret x d_Code_characterOf_56 (dz_nch (by omega)) ⟨sp_chr_f (k := 36) (by omega) (by decide), rfl⟩
                                                                · refine ly_ldc1 x d_Code_characterOf_50 ?_
                                                                  show ly_V κ b sz I 52 [(0, .int (dz_i q)), (1, .int (dz_i 5))] [.ref (Dt (100 + 1))]
                                                                  refine dz_iload_n x.1 1 d_Code_characterOf_52 rfl rfl ?_
                                                                  refine ly_callT (i := 1) (rest := []) x cl_Code_43 (by decide) (c_JStr_charAt l D Dt b sz I 5 (by omega)) (by decide) rfl rfl rfl (Nat.le_of_ble_eq_true rfl) d_Code_characterOf_53 (fun v I' hp73 => ?_)
                                                                  obtain ⟨rfl, hp73I⟩ := hp73
                                                                  have hp73I := hp73I.symm
                                                                  subst hp73I
                                                                  have hsb := sp_sb_rng 1 (by decide) 5
                                                                  show ly_V κ b sz I 56 [(0, .int (dz_i q)), (1, .int (dz_i 5))] [.int (dz_i (sp_sb 1 5))]
                                                                  exact ly_iret x d_Code_characterOf_56 (dz_nch (by omega)) ⟨sp_chr_f (k := 22) (by omega) (by decide), rfl⟩
                                                              · refine ly_ldc1 x d_Code_characterOf_50 ?_
                                                                show ly_V κ b sz I 52 [(0, .int (dz_i q)), (1, .int (dz_i 4))] [.ref (Dt (100 + 1))]
                                                                refine dz_iload_n x.1 1 d_Code_characterOf_52 rfl rfl ?_
                                                                refine ly_callT (i := 1) (rest := []) x cl_Code_43 (by decide) (c_JStr_charAt l D Dt b sz I 4 (by omega)) (by decide) rfl rfl rfl (Nat.le_of_ble_eq_true rfl) d_Code_characterOf_53 (fun v I' hp74 => ?_)
                                                                obtain ⟨rfl, hp74I⟩ := hp74
                                                                have hp74I := hp74I.symm
                                                                subst hp74I
                                                                have hsb := sp_sb_rng 1 (by decide) 4
                                                                show ly_V κ b sz I 56 [(0, .int (dz_i q)), (1, .int (dz_i 4))] [.int (dz_i (sp_sb 1 4))]
                                                                exact ly_iret x d_Code_characterOf_56 (dz_nch (by omega)) ⟨sp_chr_f (k := 38) (by omega) (by decide), rfl⟩
                                                            · refine ly_ldc1 x d_Code_characterOf_50 ?_
                                                              show ly_V κ b sz I 52 [(0, .int (dz_i q)), (1, .int (dz_i 3))] [.ref (Dt (100 + 1))]
                                                              refine dz_iload_n x.1 1 d_Code_characterOf_52 rfl rfl ?_
                                                              refine ly_callT (i := 1) (rest := []) x cl_Code_43 (by decide) (c_JStr_charAt l D Dt b sz I 3 (by omega)) (by decide) rfl rfl rfl (Nat.le_of_ble_eq_true rfl) d_Code_characterOf_53 (fun v I' hp75 => ?_)
                                                              obtain ⟨rfl, hp75I⟩ := hp75
                                                              have hp75I := hp75I.symm
                                                              subst hp75I
                                                              have hsb := sp_sb_rng 1 (by decide) 3
                                                              show ly_V κ b sz I 56 [(0, .int (dz_i q)), (1, .int (dz_i 3))] [.int (dz_i (sp_sb 1 3))]
                                                              exact ly_iret x d_Code_characterOf_56 (dz_nch (by omega)) ⟨sp_chr_f (k := 18) (by omega) (by decide), rfl⟩
                                                          · refine ly_ldc1 x d_Code_characterOf_50 ?_
                                                            show ly_V κ b sz I 52 [(0, .int (dz_i q)), (1, .int (dz_i 2))] [.ref (Dt (100 + 1))]
                                                            refine dz_iload_n x.1 1 d_Code_characterOf_52 rfl rfl ?_
                                                            refine ly_callT (i := 1) (rest := []) x cl_Code_43 (by decide) (c_JStr_charAt l D Dt b sz I 2 (by omega)) (by decide) rfl rfl rfl (Nat.le_of_ble_eq_true rfl) d_Code_characterOf_53 (fun v I' hp76 => ?_)
                                                            obtain ⟨rfl, hp76I⟩ := hp76
                                                            have hp76I := hp76I.symm
                                                            subst hp76I
                                                            have hsb := sp_sb_rng 1 (by decide) 2
                                                            show ly_V κ b sz I 56 [(0, .int (dz_i q)), (1, .int (dz_i 2))] [.int (dz_i (sp_sb 1 2))]
                                                            exact ly_iret x d_Code_characterOf_56 (dz_nch (by omega)) ⟨sp_chr_f (k := 6) (by omega) (by decide), rfl⟩
                                                        · refine ly_ldc1 x d_Code_characterOf_50 ?_
                                                          show ly_V κ b sz I 52 [(0, .int (dz_i q)), (1, .int (dz_i 1))] [.ref (Dt (100 + 1))]
                                                          refine dz_iload_n x.1 1 d_Code_characterOf_52 rfl rfl ?_
                                                          refine ly_callT (i := 1) (rest := []) x cl_Code_43 (by decide) (c_JStr_charAt l D Dt b sz I 1 (by omega)) (by decide) rfl rfl rfl (Nat.le_of_ble_eq_true rfl) d_Code_characterOf_53 (fun v I' hp77 => ?_)
                                                          obtain ⟨rfl, hp77I⟩ := hp77
                                                          have hp77I := hp77I.symm
                                                          subst hp77I
                                                          have hsb := sp_sb_rng 1 (by decide) 1
                                                          show ly_V κ b sz I 56 [(0, .int (dz_i q)), (1, .int (dz_i 1))] [.int (dz_i (sp_sb 1 1))]
                                                          exact ly_iret x d_Code_characterOf_56 (dz_nch (by omega)) ⟨sp_chr_f (k := 2) (by omega) (by decide), rfl⟩
                                                      · refine ly_ldc1 x d_Code_characterOf_50 ?_
                                                        show ly_V κ b sz I 52 [(0, .int (dz_i q)), (1, .int (dz_i 0))] [.ref (Dt (100 + 1))]
                                                        refine dz_iload_n x.1 1 d_Code_characterOf_52 rfl rfl ?_
                                                        refine ly_callT (i := 1) (rest := []) x cl_Code_43 (by decide) (c_JStr_charAt l D Dt b sz I 0 (by omega)) (by decide) rfl rfl rfl (Nat.le_of_ble_eq_true rfl) d_Code_characterOf_53 (fun v I' hp78 => ?_)
                                                        obtain ⟨rfl, hp78I⟩ := hp78
                                                        have hp78I := hp78I.symm
                                                        subst hp78I
                                                        have hsb := sp_sb_rng 1 (by decide) 0
                                                        show ly_V κ b sz I 56 [(0, .int (dz_i q)), (1, .int (dz_i 0))] [.int (dz_i (sp_sb 1 0))]
                                                        exact ly_iret x d_Code_characterOf_56 (dz_nch (by omega)) ⟨sp_chr_f (k := 50) (by omega) (by decide), rfl⟩
                                                    · refine dz_bipush x.1 d_Code_characterOf_19 (by decide) ?_
                                                      refine dz_iload_n x.1 1 d_Code_characterOf_21 rfl rfl ?_
                                                      refine dz_iadd (z := 122) x.1 d_Code_characterOf_22 (by omega) ?_
                                                      refine dz_i2c x.1 d_Code_characterOf_23 (by omega) ?_
                                                      exact ly_iret x d_Code_characterOf_24 (dz_nch (by omega)) ⟨sp_chr_f (k := 53) (by omega) (by decide), rfl⟩
                                                  · refine dz_bipush x.1 d_Code_characterOf_19 (by decide) ?_
                                                    refine dz_iload_n x.1 1 d_Code_characterOf_21 rfl rfl ?_
                                                    refine dz_iadd (z := 121) x.1 d_Code_characterOf_22 (by omega) ?_
                                                    refine dz_i2c x.1 d_Code_characterOf_23 (by omega) ?_
                                                    exact ly_iret x d_Code_characterOf_24 (dz_nch (by omega)) ⟨sp_chr_f (k := 61) (by omega) (by decide), rfl⟩
                                                · refine dz_bipush x.1 d_Code_characterOf_19 (by decide) ?_
                                                  refine dz_iload_n x.1 1 d_Code_characterOf_21 rfl rfl ?_
                                                  refine dz_iadd (z := 120) x.1 d_Code_characterOf_22 (by omega) ?_
                                                  refine dz_i2c x.1 d_Code_characterOf_23 (by omega) ?_
                                                  exact ly_iret x d_Code_characterOf_24 (dz_nch (by omega)) ⟨sp_chr_f (k := 45) (by omega) (by decide), rfl⟩
                                              · refine dz_bipush x.1 d_Code_characterOf_19 (by decide) ?_
                                                refine dz_iload_n x.1 1 d_Code_characterOf_21 rfl rfl ?_
                                                refine dz_iadd (z := 119) x.1 d_Code_characterOf_22 (by omega) ?_
                                                refine dz_i2c x.1 d_Code_characterOf_23 (by omega) ?_
                                                exact ly_iret x d_Code_characterOf_24 (dz_nch (by omega)) ⟨sp_chr_f (k := 58) (by omega) (by decide), rfl⟩
                                            · refine dz_bipush x.1 d_Code_characterOf_19 (by decide) ?_
                                              refine dz_iload_n x.1 1 d_Code_characterOf_21 rfl rfl ?_
                                              refine dz_iadd (z := 118) x.1 d_Code_characterOf_22 (by omega) ?_
                                              refine dz_i2c x.1 d_Code_characterOf_23 (by omega) ?_
                                              exact ly_iret x d_Code_characterOf_24 (dz_nch (by omega)) ⟨sp_chr_f (k := 39) (by omega) (by decide), rfl⟩
                                          · refine dz_bipush x.1 d_Code_characterOf_19 (by decide) ?_
                                            refine dz_iload_n x.1 1 d_Code_characterOf_21 rfl rfl ?_
                                            refine dz_iadd (z := 117) x.1 d_Code_characterOf_22 (by omega) ?_
                                            refine dz_i2c x.1 d_Code_characterOf_23 (by omega) ?_
                                            exact ly_iret x d_Code_characterOf_24 (dz_nch (by omega)) ⟨sp_chr_f (k := 37) (by omega) (by decide), rfl⟩
                                        · refine dz_bipush x.1 d_Code_characterOf_19 (by decide) ?_
                                          refine dz_iload_n x.1 1 d_Code_characterOf_21 rfl rfl ?_
                                          refine dz_iadd (z := 116) x.1 d_Code_characterOf_22 (by omega) ?_
                                          refine dz_i2c x.1 d_Code_characterOf_23 (by omega) ?_
                                          exact ly_iret x d_Code_characterOf_24 (dz_nch (by omega)) ⟨sp_chr_f (k := 30) (by omega) (by decide), rfl⟩
                                      · refine dz_bipush x.1 d_Code_characterOf_19 (by decide) ?_
                                        refine dz_iload_n x.1 1 d_Code_characterOf_21 rfl rfl ?_
                                        refine dz_iadd (z := 115) x.1 d_Code_characterOf_22 (by omega) ?_
                                        refine dz_i2c x.1 d_Code_characterOf_23 (by omega) ?_
                                        exact ly_iret x d_Code_characterOf_24 (dz_nch (by omega)) ⟨sp_chr_f (k := 14) (by omega) (by decide), rfl⟩
                                    · refine dz_bipush x.1 d_Code_characterOf_19 (by decide) ?_
                                      refine dz_iload_n x.1 1 d_Code_characterOf_21 rfl rfl ?_
                                      refine dz_iadd (z := 114) x.1 d_Code_characterOf_22 (by omega) ?_
                                      refine dz_i2c x.1 d_Code_characterOf_23 (by omega) ?_
                                      exact ly_iret x d_Code_characterOf_24 (dz_nch (by omega)) ⟨sp_chr_f (k := 23) (by omega) (by decide), rfl⟩
                                  · refine dz_bipush x.1 d_Code_characterOf_19 (by decide) ?_
                                    refine dz_iload_n x.1 1 d_Code_characterOf_21 rfl rfl ?_
                                    refine dz_iadd (z := 113) x.1 d_Code_characterOf_22 (by omega) ?_
                                    refine dz_i2c x.1 d_Code_characterOf_23 (by omega) ?_
                                    exact ly_iret x d_Code_characterOf_24 (dz_nch (by omega)) ⟨sp_chr_f (k := 31) (by omega) (by decide), rfl⟩
                                · refine dz_bipush x.1 d_Code_characterOf_19 (by decide) ?_
                                  refine dz_iload_n x.1 1 d_Code_characterOf_21 rfl rfl ?_
                                  refine dz_iadd (z := 112) x.1 d_Code_characterOf_22 (by omega) ?_
                                  refine dz_i2c x.1 d_Code_characterOf_23 (by omega) ?_
                                  exact ly_iret x d_Code_characterOf_24 (dz_nch (by omega)) ⟨sp_chr_f (k := 15) (by omega) (by decide), rfl⟩
                              · refine dz_bipush x.1 d_Code_characterOf_19 (by decide) ?_
                                refine dz_iload_n x.1 1 d_Code_characterOf_21 rfl rfl ?_
                                refine dz_iadd (z := 111) x.1 d_Code_characterOf_22 (by omega) ?_
                                refine dz_i2c x.1 d_Code_characterOf_23 (by omega) ?_
                                exact ly_iret x d_Code_characterOf_24 (dz_nch (by omega)) ⟨sp_chr_f (k := 21) (by omega) (by decide), rfl⟩
                            · refine dz_bipush x.1 d_Code_characterOf_19 (by decide) ?_
                              refine dz_iload_n x.1 1 d_Code_characterOf_21 rfl rfl ?_
                              refine dz_iadd (z := 110) x.1 d_Code_characterOf_22 (by omega) ?_
                              refine dz_i2c x.1 d_Code_characterOf_23 (by omega) ?_
                              exact ly_iret x d_Code_characterOf_24 (dz_nch (by omega)) ⟨sp_chr_f (k := 29) (by omega) (by decide), rfl⟩
                          · refine dz_bipush x.1 d_Code_characterOf_19 (by decide) ?_
                            refine dz_iload_n x.1 1 d_Code_characterOf_21 rfl rfl ?_
                            refine dz_iadd (z := 109) x.1 d_Code_characterOf_22 (by omega) ?_
                            refine dz_i2c x.1 d_Code_characterOf_23 (by omega) ?_
                            exact ly_iret x d_Code_characterOf_24 (dz_nch (by omega)) ⟨sp_chr_f (k := 13) (by omega) (by decide), rfl⟩
                        · refine dz_bipush x.1 d_Code_characterOf_19 (by decide) ?_
                          refine dz_iload_n x.1 1 d_Code_characterOf_21 rfl rfl ?_
                          refine dz_iadd (z := 108) x.1 d_Code_characterOf_22 (by omega) ?_
                          refine dz_i2c x.1 d_Code_characterOf_23 (by omega) ?_
                          exact ly_iret x d_Code_characterOf_24 (dz_nch (by omega)) ⟨sp_chr_f (k := 7) (by omega) (by decide), rfl⟩
                      · refine dz_bipush x.1 d_Code_characterOf_19 (by decide) ?_
                        refine dz_iload_n x.1 1 d_Code_characterOf_21 rfl rfl ?_
                        refine dz_iadd (z := 107) x.1 d_Code_characterOf_22 (by omega) ?_
                        refine dz_i2c x.1 d_Code_characterOf_23 (by omega) ?_
                        exact ly_iret x d_Code_characterOf_24 (dz_nch (by omega)) ⟨sp_chr_f (k := 5) (by omega) (by decide), rfl⟩
                    · refine dz_bipush x.1 d_Code_characterOf_19 (by decide) ?_
                      refine dz_iload_n x.1 1 d_Code_characterOf_21 rfl rfl ?_
                      refine dz_iadd (z := 106) x.1 d_Code_characterOf_22 (by omega) ?_
                      refine dz_i2c x.1 d_Code_characterOf_23 (by omega) ?_
                      exact ly_iret x d_Code_characterOf_24 (dz_nch (by omega)) ⟨sp_chr_f (k := 26) (by omega) (by decide), rfl⟩
                  · refine dz_bipush x.1 d_Code_characterOf_19 (by decide) ?_
                    refine dz_iload_n x.1 1 d_Code_characterOf_21 rfl rfl ?_
                    refine dz_iadd (z := 105) x.1 d_Code_characterOf_22 (by omega) ?_
                    refine dz_i2c x.1 d_Code_characterOf_23 (by omega) ?_
                    exact ly_iret x d_Code_characterOf_24 (dz_nch (by omega)) ⟨sp_chr_f (k := 10) (by omega) (by decide), rfl⟩
                · refine dz_bipush x.1 d_Code_characterOf_19 (by decide) ?_
                  refine dz_iload_n x.1 1 d_Code_characterOf_21 rfl rfl ?_
                  refine dz_iadd (z := 104) x.1 d_Code_characterOf_22 (by omega) ?_
                  refine dz_i2c x.1 d_Code_characterOf_23 (by omega) ?_
                  exact ly_iret x d_Code_characterOf_24 (dz_nch (by omega)) ⟨sp_chr_f (k := 19) (by omega) (by decide), rfl⟩
              · refine dz_bipush x.1 d_Code_characterOf_19 (by decide) ?_
                refine dz_iload_n x.1 1 d_Code_characterOf_21 rfl rfl ?_
                refine dz_iadd (z := 103) x.1 d_Code_characterOf_22 (by omega) ?_
                refine dz_i2c x.1 d_Code_characterOf_23 (by omega) ?_
                exact ly_iret x d_Code_characterOf_24 (dz_nch (by omega)) ⟨sp_chr_f (k := 27) (by omega) (by decide), rfl⟩
            · refine dz_bipush x.1 d_Code_characterOf_19 (by decide) ?_
              refine dz_iload_n x.1 1 d_Code_characterOf_21 rfl rfl ?_
              refine dz_iadd (z := 102) x.1 d_Code_characterOf_22 (by omega) ?_
              refine dz_i2c x.1 d_Code_characterOf_23 (by omega) ?_
              exact ly_iret x d_Code_characterOf_24 (dz_nch (by omega)) ⟨sp_chr_f (k := 11) (by omega) (by decide), rfl⟩
          · refine dz_bipush x.1 d_Code_characterOf_19 (by decide) ?_
            refine dz_iload_n x.1 1 d_Code_characterOf_21 rfl rfl ?_
            refine dz_iadd (z := 101) x.1 d_Code_characterOf_22 (by omega) ?_
            refine dz_i2c x.1 d_Code_characterOf_23 (by omega) ?_
            exact ly_iret x d_Code_characterOf_24 (dz_nch (by omega)) ⟨sp_chr_f (k := 17) (by omega) (by decide), rfl⟩
        · refine dz_bipush x.1 d_Code_characterOf_19 (by decide) ?_
          refine dz_iload_n x.1 1 d_Code_characterOf_21 rfl rfl ?_
          refine dz_iadd (z := 100) x.1 d_Code_characterOf_22 (by omega) ?_
          refine dz_i2c x.1 d_Code_characterOf_23 (by omega) ?_
          exact ly_iret x d_Code_characterOf_24 (dz_nch (by omega)) ⟨sp_chr_f (k := 25) (by omega) (by decide), rfl⟩
      · refine dz_bipush x.1 d_Code_characterOf_19 (by decide) ?_
        refine dz_iload_n x.1 1 d_Code_characterOf_21 rfl rfl ?_
        refine dz_iadd (z := 99) x.1 d_Code_characterOf_22 (by omega) ?_
        refine dz_i2c x.1 d_Code_characterOf_23 (by omega) ?_
        exact ly_iret x d_Code_characterOf_24 (dz_nch (by omega)) ⟨sp_chr_f (k := 9) (by omega) (by decide), rfl⟩
    · refine dz_bipush x.1 d_Code_characterOf_19 (by decide) ?_
      refine dz_iload_n x.1 1 d_Code_characterOf_21 rfl rfl ?_
      refine dz_iadd (z := 98) x.1 d_Code_characterOf_22 (by omega) ?_
      refine dz_i2c x.1 d_Code_characterOf_23 (by omega) ?_
      exact ly_iret x d_Code_characterOf_24 (dz_nch (by omega)) ⟨sp_chr_f (k := 3) (by omega) (by decide), rfl⟩
  · refine dz_bipush x.1 d_Code_characterOf_19 (by decide) ?_
    refine dz_iload_n x.1 1 d_Code_characterOf_21 rfl rfl ?_
    refine dz_iadd (z := 97) x.1 d_Code_characterOf_22 (by omega) ?_
    refine dz_i2c x.1 d_Code_characterOf_23 (by omega) ?_
    exact ly_iret x d_Code_characterOf_24 (dz_nch (by omega)) ⟨sp_chr_f (k := 1) (by omega) (by decide), rfl⟩
