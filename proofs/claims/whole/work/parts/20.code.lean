set_option maxRecDepth 100000 in
set_option maxHeartbeats 4000000 in
theorem c_Code_isSmall (l : Launch) (D : va_G) (Dt : Nat → ClassId) (b sz : Nat) (I : dz_Hp) (c : Int) (hc : 0 ≤ c ∧ c < 65536) : ly_M l D Dt b sz y_Code_isSmall b_Code_isSmall 1 (some .boolean) 1 [.int (dz_i c)] I (fun v I' => v = some (.int (dz_i (if 97 ≤ c ∧ c ≤ 122 then 1 else 0))) ∧ I' = I) := by
  refine ly_enter R_Code (by decide) rfl (Nat.le_of_ble_eq_true rfl) (ly_cat _ 0 rfl) (fun κ x => ?_)
  have hN := ly_N x
  show ly_V κ b sz I 0 [(0, .int (dz_i c))] []
  refine dz_iload_n x.1 0 d_Code_isSmall_0 rfl rfl ?_
  refine dz_bipush x.1 d_Code_isSmall_1 (by decide) ?_
  refine dz_icmp_lt (tgt := 16) x.1 d_Code_isSmall_3 (by decide) (by omega) (by omega) (fun hc1 => ?_) (fun hc1 => ?_)
  · refine dz_iconst x.1 d_Code_isSmall_16 ?_
    exact ly_iret x d_Code_isSmall_17 (dz_nbo (by omega)) ⟨by first | rw [if_pos (by omega)] | rw [if_neg (by omega)], rfl⟩
  · refine dz_iload_n x.1 0 d_Code_isSmall_6 rfl rfl ?_
    refine dz_bipush x.1 d_Code_isSmall_7 (by decide) ?_
    refine dz_icmp_gt (tgt := 16) x.1 d_Code_isSmall_9 (by decide) (by omega) (by omega) (fun hc2 => ?_) (fun hc2 => ?_)
    · refine dz_iconst x.1 d_Code_isSmall_16 ?_
      exact ly_iret x d_Code_isSmall_17 (dz_nbo (by omega)) ⟨by first | rw [if_pos (by omega)] | rw [if_neg (by omega)], rfl⟩
    · refine dz_iconst x.1 d_Code_isSmall_12 ?_
      refine dz_goto (tgt := 17) x.1 d_Code_isSmall_13 (by decide) ?_
      exact ly_iret x d_Code_isSmall_17 (dz_nbo (by omega)) ⟨by first | rw [if_pos (by omega)] | rw [if_neg (by omega)], rfl⟩
set_option maxRecDepth 100000 in
set_option maxHeartbeats 4000000 in
theorem c_Code_isCapital (l : Launch) (D : va_G) (Dt : Nat → ClassId) (b sz : Nat) (I : dz_Hp) (c : Int) (hc : 0 ≤ c ∧ c < 65536) : ly_M l D Dt b sz y_Code_isCapital b_Code_isCapital 1 (some .boolean) 1 [.int (dz_i c)] I (fun v I' => v = some (.int (dz_i (if 65 ≤ c ∧ c ≤ 90 then 1 else 0))) ∧ I' = I) := by
  refine ly_enter R_Code (by decide) rfl (Nat.le_of_ble_eq_true rfl) (ly_cat _ 0 rfl) (fun κ x => ?_)
  have hN := ly_N x
  show ly_V κ b sz I 0 [(0, .int (dz_i c))] []
  refine dz_iload_n x.1 0 d_Code_isCapital_0 rfl rfl ?_
  refine dz_bipush x.1 d_Code_isCapital_1 (by decide) ?_
  refine dz_icmp_lt (tgt := 16) x.1 d_Code_isCapital_3 (by decide) (by omega) (by omega) (fun hc1 => ?_) (fun hc1 => ?_)
  · refine dz_iconst x.1 d_Code_isCapital_16 ?_
    exact ly_iret x d_Code_isCapital_17 (dz_nbo (by omega)) ⟨by first | rw [if_pos (by omega)] | rw [if_neg (by omega)], rfl⟩
  · refine dz_iload_n x.1 0 d_Code_isCapital_6 rfl rfl ?_
    refine dz_bipush x.1 d_Code_isCapital_7 (by decide) ?_
    refine dz_icmp_gt (tgt := 16) x.1 d_Code_isCapital_9 (by decide) (by omega) (by omega) (fun hc2 => ?_) (fun hc2 => ?_)
    · refine dz_iconst x.1 d_Code_isCapital_16 ?_
      exact ly_iret x d_Code_isCapital_17 (dz_nbo (by omega)) ⟨by first | rw [if_pos (by omega)] | rw [if_neg (by omega)], rfl⟩
    · refine dz_iconst x.1 d_Code_isCapital_12 ?_
      refine dz_goto (tgt := 17) x.1 d_Code_isCapital_13 (by decide) ?_
      exact ly_iret x d_Code_isCapital_17 (dz_nbo (by omega)) ⟨by first | rw [if_pos (by omega)] | rw [if_neg (by omega)], rfl⟩
set_option maxRecDepth 100000 in
set_option maxHeartbeats 4000000 in
theorem c_Code_isDigit (l : Launch) (D : va_G) (Dt : Nat → ClassId) (b sz : Nat) (I : dz_Hp) (c : Int) (hc : 0 ≤ c ∧ c < 65536) : ly_M l D Dt b sz y_Code_isDigit b_Code_isDigit 1 (some .boolean) 1 [.int (dz_i c)] I (fun v I' => v = some (.int (dz_i (if 48 ≤ c ∧ c ≤ 57 then 1 else 0))) ∧ I' = I) := by
  refine ly_enter R_Code (by decide) rfl (Nat.le_of_ble_eq_true rfl) (ly_cat _ 0 rfl) (fun κ x => ?_)
  have hN := ly_N x
  show ly_V κ b sz I 0 [(0, .int (dz_i c))] []
  refine dz_iload_n x.1 0 d_Code_isDigit_0 rfl rfl ?_
  refine dz_bipush x.1 d_Code_isDigit_1 (by decide) ?_
  refine dz_icmp_lt (tgt := 16) x.1 d_Code_isDigit_3 (by decide) (by omega) (by omega) (fun hc1 => ?_) (fun hc1 => ?_)
  · refine dz_iconst x.1 d_Code_isDigit_16 ?_
    exact ly_iret x d_Code_isDigit_17 (dz_nbo (by omega)) ⟨by first | rw [if_pos (by omega)] | rw [if_neg (by omega)], rfl⟩
  · refine dz_iload_n x.1 0 d_Code_isDigit_6 rfl rfl ?_
    refine dz_bipush x.1 d_Code_isDigit_7 (by decide) ?_
    refine dz_icmp_gt (tgt := 16) x.1 d_Code_isDigit_9 (by decide) (by omega) (by omega) (fun hc2 => ?_) (fun hc2 => ?_)
    · refine dz_iconst x.1 d_Code_isDigit_16 ?_
      exact ly_iret x d_Code_isDigit_17 (dz_nbo (by omega)) ⟨by first | rw [if_pos (by omega)] | rw [if_neg (by omega)], rfl⟩
    · refine dz_iconst x.1 d_Code_isDigit_12 ?_
      refine dz_goto (tgt := 17) x.1 d_Code_isDigit_13 (by decide) ?_
      exact ly_iret x d_Code_isDigit_17 (dz_nbo (by omega)) ⟨by first | rw [if_pos (by omega)] | rw [if_neg (by omega)], rfl⟩
set_option maxRecDepth 100000 in
set_option maxHeartbeats 4000000 in
theorem c_Code_looksLikeDigit (l : Launch) (D : va_G) (Dt : Nat → ClassId) (b sz : Nat) (I : dz_Hp) (c : Int) (hc : 0 ≤ c ∧ c < 65536) : ly_M l D Dt b sz y_Code_looksLikeDigit b_Code_looksLikeDigit 1 (some .boolean) 1 [.int (dz_i c)] I (fun v I' => v = some (.int (dz_i (if 97 ≤ c ∧ c ≤ 106 then 1 else 0))) ∧ I' = I) := by
  refine ly_enter R_Code (by decide) rfl (Nat.le_of_ble_eq_true rfl) (ly_cat _ 0 rfl) (fun κ x => ?_)
  have hN := ly_N x
  show ly_V κ b sz I 0 [(0, .int (dz_i c))] []
  refine dz_iload_n x.1 0 d_Code_looksLikeDigit_0 rfl rfl ?_
  refine dz_bipush x.1 d_Code_looksLikeDigit_1 (by decide) ?_
  refine dz_icmp_lt (tgt := 16) x.1 d_Code_looksLikeDigit_3 (by decide) (by omega) (by omega) (fun hc1 => ?_) (fun hc1 => ?_)
  · refine dz_iconst x.1 d_Code_looksLikeDigit_16 ?_
    exact ly_iret x d_Code_looksLikeDigit_17 (dz_nbo (by omega)) ⟨by first | rw [if_pos (by omega)] | rw [if_neg (by omega)], rfl⟩
  · refine dz_iload_n x.1 0 d_Code_looksLikeDigit_6 rfl rfl ?_
    refine dz_bipush x.1 d_Code_looksLikeDigit_7 (by decide) ?_
    refine dz_icmp_gt (tgt := 16) x.1 d_Code_looksLikeDigit_9 (by decide) (by omega) (by omega) (fun hc2 => ?_) (fun hc2 => ?_)
    · refine dz_iconst x.1 d_Code_looksLikeDigit_16 ?_
      exact ly_iret x d_Code_looksLikeDigit_17 (dz_nbo (by omega)) ⟨by first | rw [if_pos (by omega)] | rw [if_neg (by omega)], rfl⟩
    · refine dz_iconst x.1 d_Code_looksLikeDigit_12 ?_
      refine dz_goto (tgt := 17) x.1 d_Code_looksLikeDigit_13 (by decide) ?_
      exact ly_iret x d_Code_looksLikeDigit_17 (dz_nbo (by omega)) ⟨by first | rw [if_pos (by omega)] | rw [if_neg (by omega)], rfl⟩
