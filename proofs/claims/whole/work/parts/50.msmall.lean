/-- the reference's cells of marks and of letters -/
def sp_mk (c : Int) : Int := if c = 46 then 50 else if c = 44 then 2 else if c = 59 then 6 else if c = 58 then 18 else if c = 63 then 38 else if c = 33 then 22 else if c = 45 then 36 else if c = 39 then 4 else 0
def sp_mcl (c : Int) : Int := if 97 ≤ c ∧ c ≤ 122 then sp_lc (c - 97) else sp_mk c
theorem sp_mk_rng (c : Int) : 0 ≤ sp_mk c ∧ sp_mk c < 64 := by unfold sp_mk; (repeat' split) <;> omega
theorem sp_mcl_rng (c : Int) : 0 ≤ sp_mcl c ∧ sp_mcl c < 64 := by unfold sp_mcl; split; exact sp_lc_rng _; exact sp_mk_rng _
theorem sp_lc_f {c : Int} {k : Int} {r : Int} (h : c = k) (hk : sp_mcl k = r) : sp_mcl c = r := by rw [h]; exact hk
theorem sp_mk_f {c : Int} {k : Int} {r : Int} (h : c = k) (hk : sp_mk k = r) : sp_mk c = r := by rw [h]; exact hk
theorem sp_mk_ix (c : Int) : sp_mk c = if 0 ≤ sp_ix 1 c then sp_mc (sp_ix 1 c) else 0 := by
  by_cases h : c = 46 ∨ c = 44 ∨ c = 59 ∨ c = 58 ∨ c = 63 ∨ c = 33 ∨ c = 45 ∨ c = 39
  · rcases h with h | h | h | h | h | h | h | h <;> (subst h; decide +kernel)
  · have e : sp_ix 1 c = -1 := sp_ixn1 (by omega)
    rw [e, if_neg (by decide)]
    unfold sp_mk
    repeat rw [if_neg (by omega)]
/-- the cell of a digit -/
theorem sp_dc {d : Int} (h : 0 ≤ d ∧ d ≤ 9) : sp_mcl (if d = 0 then 106 else d + 96) = sp_cell (d + 48) := by
  have key : ∀ n : Nat, n < 10 → sp_mcl (if (n : Int) = 0 then 106 else (n : Int) + 96) = sp_cell ((n : Int) + 48) := by decide +kernel
  have := key d.toNat (by omega)
  rw [show ((d.toNat : Nat) : Int) = d by omega] at this
  exact this
theorem sp_chr_l {c : Int} (h : 97 ≤ c ∧ c ≤ 122) : sp_chr (sp_mcl c) = c := by
  have key : ∀ n : Nat, n < 26 → sp_chr (sp_mcl ((n : Int) + 97)) = (n : Int) + 97 := by decide +kernel
  have := key (c - 97).toNat (by omega)
  rw [show (((c - 97).toNat : Nat) : Int) + 97 = c by omega] at this
  exact this
theorem sp_chr_m {c : Int} (h : 33 ≤ c ∧ c ≤ 64) (h0 : 0 < sp_mk c) : sp_chr (sp_mk c) = c := by
  have key : ∀ n : Nat, n < 32 → 0 < sp_mk ((n : Int) + 33) → sp_chr (sp_mk ((n : Int) + 33)) = (n : Int) + 33 := by decide +kernel
  have := key (c - 33).toNat (by omega)
  rw [show (((c - 33).toNat : Nat) : Int) + 33 = c by omega] at this
  exact this h0
theorem sp_chr_n {q : Int} (hq : 0 ≤ q ∧ q < 64) (h1 : ∀ j : Int, 97 ≤ j → j < 123 → ¬ sp_mcl j = q) (h2 : ∀ j : Int, 33 ≤ j → j < 65 → ¬ (0 < q ∧ sp_mk j = q)) : sp_chr q = 35 := by
  have key : ∀ n : Nat, n < 64 → (∀ i : Nat, i < 26 → ¬ sp_mcl ((i : Int) + 97) = (n : Int)) → (∀ i : Nat, i < 32 → ¬ (0 < (n : Int) ∧ sp_mk ((i : Int) + 33) = (n : Int))) → sp_chr (n : Int) = 35 := by decide +kernel
  have := key q.toNat (by omega) (fun i hi => by rw [show ((q.toNat : Nat) : Int) = q by omega]; exact h1 _ (by omega) (by omega)) (fun i hi => by rw [show ((q.toNat : Nat) : Int) = q by omega]; exact h2 _ (by omega) (by omega))
  rw [show ((q.toNat : Nat) : Int) = q by omega] at this
  exact this
/-- the digit of a cell: 0 .. 9, or -1 -/
def sp_dg (q : Int) : Int := if sp_dig q = 35 then -1 else sp_dig q - 48
theorem sp_dg_t {d q : Int} (h : 0 ≤ d ∧ d ≤ 9) (hq : sp_cell (d + 48) = q) : sp_dg q = d := by
  have key : ∀ n : Nat, n < 10 → sp_dg (sp_cell ((n : Int) + 48)) = (n : Int) := by decide +kernel
  have := key d.toNat (by omega)
  rw [show ((d.toNat : Nat) : Int) = d by omega, hq] at this
  exact this
theorem sp_dg_n {q : Int} (hq : 0 ≤ q ∧ q < 64) (h : ∀ j : Int, 0 ≤ j → j < 10 → ¬ sp_cell (j + 48) = q) : sp_dg q = -1 := by
  have key : ∀ n : Nat, n < 64 → (∀ i : Nat, i < 10 → ¬ sp_cell ((i : Int) + 48) = (n : Int)) → sp_dg (n : Int) = -1 := by decide +kernel
  have := key q.toNat (by omega) (fun i hi => by rw [show ((q.toNat : Nat) : Int) = q by omega]; exact h _ (by omega) (by omega))
  rw [show ((q.toNat : Nat) : Int) = q by omega] at this
  exact this
set_option maxRecDepth 100000 in
set_option maxHeartbeats 4000000 in
theorem c_Model_isSmall (l : Launch) (D : va_G) (Dt : Nat → ClassId) (b sz : Nat) (I : dz_Hp) (c : Int) (hc : 0 ≤ c ∧ c < 65536) : ly_M l D Dt b sz y_Model_isSmall b_Model_isSmall 2 (some .boolean) 1 [.ref (b + 130), .int (dz_i c)] I (fun v I' => v = some (.int (dz_i (if 97 ≤ c ∧ c ≤ 122 then 1 else 0))) ∧ I' = I) := by
  refine ly_enter R_Model (by decide) rfl (Nat.le_of_ble_eq_true rfl) (ly_cat _ 0 rfl) (fun κ x => ?_)
  have hN := ly_N x
  show ly_V κ b sz I 0 [(0, .ref (b + 130)), (1, .int (dz_i c))] []
  refine dz_iload_n x.1 1 d_Model_isSmall_0 rfl rfl ?_
  refine dz_bipush x.1 d_Model_isSmall_1 (by decide) ?_
  refine dz_icmp_lt (tgt := 16) x.1 d_Model_isSmall_3 (by decide) (by omega) (by omega) (fun hc3 => ?_) (fun hc3 => ?_)
  · refine dz_iconst x.1 d_Model_isSmall_16 ?_
    exact ly_iret x d_Model_isSmall_17 (dz_nbo (by omega)) ⟨by first | (exfalso; omega) | rw [if_pos (by omega)] | rw [if_neg (by omega)], rfl⟩
  · refine dz_iload_n x.1 1 d_Model_isSmall_6 rfl rfl ?_
    refine dz_bipush x.1 d_Model_isSmall_7 (by decide) ?_
    refine dz_icmp_gt (tgt := 16) x.1 d_Model_isSmall_9 (by decide) (by omega) (by omega) (fun hc9 => ?_) (fun hc9 => ?_)
    · refine dz_iconst x.1 d_Model_isSmall_16 ?_
      exact ly_iret x d_Model_isSmall_17 (dz_nbo (by omega)) ⟨by first | (exfalso; omega) | rw [if_pos (by omega)] | rw [if_neg (by omega)], rfl⟩
    · refine dz_iconst x.1 d_Model_isSmall_12 ?_
      refine dz_goto (tgt := 17) x.1 d_Model_isSmall_13 (by decide) ?_
      exact ly_iret x d_Model_isSmall_17 (dz_nbo (by omega)) ⟨by first | (exfalso; omega) | rw [if_pos (by omega)] | rw [if_neg (by omega)], rfl⟩
set_option maxRecDepth 100000 in
set_option maxHeartbeats 4000000 in
theorem c_Model_isCapital (l : Launch) (D : va_G) (Dt : Nat → ClassId) (b sz : Nat) (I : dz_Hp) (c : Int) (hc : 0 ≤ c ∧ c < 65536) : ly_M l D Dt b sz y_Model_isCapital b_Model_isCapital 2 (some .boolean) 1 [.ref (b + 130), .int (dz_i c)] I (fun v I' => v = some (.int (dz_i (if 65 ≤ c ∧ c ≤ 90 then 1 else 0))) ∧ I' = I) := by
  refine ly_enter R_Model (by decide) rfl (Nat.le_of_ble_eq_true rfl) (ly_cat _ 0 rfl) (fun κ x => ?_)
  have hN := ly_N x
  show ly_V κ b sz I 0 [(0, .ref (b + 130)), (1, .int (dz_i c))] []
  refine dz_iload_n x.1 1 d_Model_isCapital_0 rfl rfl ?_
  refine dz_bipush x.1 d_Model_isCapital_1 (by decide) ?_
  refine dz_icmp_lt (tgt := 16) x.1 d_Model_isCapital_3 (by decide) (by omega) (by omega) (fun hc3 => ?_) (fun hc3 => ?_)
  · refine dz_iconst x.1 d_Model_isCapital_16 ?_
    exact ly_iret x d_Model_isCapital_17 (dz_nbo (by omega)) ⟨by first | (exfalso; omega) | rw [if_pos (by omega)] | rw [if_neg (by omega)], rfl⟩
  · refine dz_iload_n x.1 1 d_Model_isCapital_6 rfl rfl ?_
    refine dz_bipush x.1 d_Model_isCapital_7 (by decide) ?_
    refine dz_icmp_gt (tgt := 16) x.1 d_Model_isCapital_9 (by decide) (by omega) (by omega) (fun hc9 => ?_) (fun hc9 => ?_)
    · refine dz_iconst x.1 d_Model_isCapital_16 ?_
      exact ly_iret x d_Model_isCapital_17 (dz_nbo (by omega)) ⟨by first | (exfalso; omega) | rw [if_pos (by omega)] | rw [if_neg (by omega)], rfl⟩
    · refine dz_iconst x.1 d_Model_isCapital_12 ?_
      refine dz_goto (tgt := 17) x.1 d_Model_isCapital_13 (by decide) ?_
      exact ly_iret x d_Model_isCapital_17 (dz_nbo (by omega)) ⟨by first | (exfalso; omega) | rw [if_pos (by omega)] | rw [if_neg (by omega)], rfl⟩
set_option maxRecDepth 100000 in
set_option maxHeartbeats 4000000 in
theorem c_Model_isDigit (l : Launch) (D : va_G) (Dt : Nat → ClassId) (b sz : Nat) (I : dz_Hp) (c : Int) (hc : 0 ≤ c ∧ c < 65536) : ly_M l D Dt b sz y_Model_isDigit b_Model_isDigit 2 (some .boolean) 1 [.ref (b + 130), .int (dz_i c)] I (fun v I' => v = some (.int (dz_i (if 48 ≤ c ∧ c ≤ 57 then 1 else 0))) ∧ I' = I) := by
  refine ly_enter R_Model (by decide) rfl (Nat.le_of_ble_eq_true rfl) (ly_cat _ 0 rfl) (fun κ x => ?_)
  have hN := ly_N x
  show ly_V κ b sz I 0 [(0, .ref (b + 130)), (1, .int (dz_i c))] []
  refine dz_iload_n x.1 1 d_Model_isDigit_0 rfl rfl ?_
  refine dz_bipush x.1 d_Model_isDigit_1 (by decide) ?_
  refine dz_icmp_lt (tgt := 16) x.1 d_Model_isDigit_3 (by decide) (by omega) (by omega) (fun hc3 => ?_) (fun hc3 => ?_)
  · refine dz_iconst x.1 d_Model_isDigit_16 ?_
    exact ly_iret x d_Model_isDigit_17 (dz_nbo (by omega)) ⟨by first | (exfalso; omega) | rw [if_pos (by omega)] | rw [if_neg (by omega)], rfl⟩
  · refine dz_iload_n x.1 1 d_Model_isDigit_6 rfl rfl ?_
    refine dz_bipush x.1 d_Model_isDigit_7 (by decide) ?_
    refine dz_icmp_gt (tgt := 16) x.1 d_Model_isDigit_9 (by decide) (by omega) (by omega) (fun hc9 => ?_) (fun hc9 => ?_)
    · refine dz_iconst x.1 d_Model_isDigit_16 ?_
      exact ly_iret x d_Model_isDigit_17 (dz_nbo (by omega)) ⟨by first | (exfalso; omega) | rw [if_pos (by omega)] | rw [if_neg (by omega)], rfl⟩
    · refine dz_iconst x.1 d_Model_isDigit_12 ?_
      refine dz_goto (tgt := 17) x.1 d_Model_isDigit_13 (by decide) ?_
      exact ly_iret x d_Model_isDigit_17 (dz_nbo (by omega)) ⟨by first | (exfalso; omega) | rw [if_pos (by omega)] | rw [if_neg (by omega)], rfl⟩
set_option maxRecDepth 100000 in
set_option maxHeartbeats 4000000 in
theorem c_Model_isLetter (l : Launch) (D : va_G) (Dt : Nat → ClassId) (b sz : Nat) (I : dz_Hp) (c : Int) (hc : 0 ≤ c ∧ c < 65536) : ly_M l D Dt b sz y_Model_isLetter b_Model_isLetter 2 (some .boolean) 2 [.ref (b + 130), .int (dz_i c)] I (fun v I' => v = some (.int (dz_i (if (97 ≤ c ∧ c ≤ 122) ∨ (65 ≤ c ∧ c ≤ 90) then 1 else 0))) ∧ I' = I) := by
  refine ly_enter R_Model (by decide) rfl (Nat.le_of_ble_eq_true rfl) (ly_cat _ 0 rfl) (fun κ x => ?_)
  have hN := ly_N x
  show ly_V κ b sz I 0 [(0, .ref (b + 130)), (1, .int (dz_i c))] []
  refine dz_aload_n x.1 0 d_Model_isLetter_0 rfl rfl ?_
  refine dz_iload_n x.1 1 d_Model_isLetter_1 rfl rfl ?_
  refine ly_callV (rest := []) x cl_Model_66 (c_Model_isSmall l D Dt b sz I c (by omega)) (by decide) (ly_Model b) rfl rfl rfl rfl (Nat.le_of_ble_eq_true rfl) d_Model_isLetter_2 (fun v I' hp2 => ?_)
  obtain ⟨rfl, hp2I⟩ := hp2
  have hp2I := hp2I.symm
  subst hp2I
  show ly_V κ b sz I 5 [(0, .ref (b + 130)), (1, .int (dz_i c))] [.int (dz_i (if 97 ≤ c ∧ c ≤ 122 then 1 else 0))]
  refine dz_if_ne (tgt := 16) x.1 d_Model_isLetter_5 (by decide) (dz_br _) (fun hc5 => ?_) (fun hc5 => ?_)
  · have hc5 : 97 ≤ c ∧ c ≤ 122 := dz_bt hc5
    refine dz_iconst x.1 d_Model_isLetter_16 ?_
    refine dz_goto (tgt := 21) x.1 d_Model_isLetter_17 (by decide) ?_
    exact ly_iret x d_Model_isLetter_21 (dz_nbo (by omega)) ⟨by first | (exfalso; omega) | rw [if_pos (by omega)] | rw [if_neg (by omega)], rfl⟩
  · have hc5 : ¬ (97 ≤ c ∧ c ≤ 122) := dz_bf hc5
    refine dz_aload_n x.1 0 d_Model_isLetter_8 rfl rfl ?_
    refine dz_iload_n x.1 1 d_Model_isLetter_9 rfl rfl ?_
    refine ly_callV (rest := []) x cl_Model_70 (c_Model_isCapital l D Dt b sz I c (by omega)) (by decide) (ly_Model b) rfl rfl rfl rfl (Nat.le_of_ble_eq_true rfl) d_Model_isLetter_10 (fun v I' hp10 => ?_)
    obtain ⟨rfl, hp10I⟩ := hp10
    have hp10I := hp10I.symm
    subst hp10I
    show ly_V κ b sz I 13 [(0, .ref (b + 130)), (1, .int (dz_i c))] [.int (dz_i (if 65 ≤ c ∧ c ≤ 90 then 1 else 0))]
    refine dz_if_eq (tgt := 20) x.1 d_Model_isLetter_13 (by decide) (dz_br _) (fun hc13 => ?_) (fun hc13 => ?_)
    · have hc13 : ¬ (65 ≤ c ∧ c ≤ 90) := dz_bf hc13
      refine dz_iconst x.1 d_Model_isLetter_20 ?_
      exact ly_iret x d_Model_isLetter_21 (dz_nbo (by omega)) ⟨by first | (exfalso; omega) | rw [if_pos (by omega)] | rw [if_neg (by omega)], rfl⟩
    · have hc13 : 65 ≤ c ∧ c ≤ 90 := dz_bt hc13
      refine dz_iconst x.1 d_Model_isLetter_16 ?_
      refine dz_goto (tgt := 21) x.1 d_Model_isLetter_17 (by decide) ?_
      exact ly_iret x d_Model_isLetter_21 (dz_nbo (by omega)) ⟨by first | (exfalso; omega) | rw [if_pos (by omega)] | rw [if_neg (by omega)], rfl⟩
set_option maxRecDepth 100000 in
set_option maxHeartbeats 4000000 in
theorem c_Model_small (l : Launch) (D : va_G) (Dt : Nat → ClassId) (b sz : Nat) (I : dz_Hp) (c : Int) (hc : 0 ≤ c ∧ c < 60000) : ly_M l D Dt b sz y_Model_small b_Model_small 2 (some .char) 2 [.ref (b + 130), .int (dz_i c)] I (fun v I' => v = some (.int (dz_i (sp_small c))) ∧ I' = I) := by
  refine ly_enter R_Model (by decide) rfl (Nat.le_of_ble_eq_true rfl) (ly_cat _ 0 rfl) (fun κ x => ?_)
  have hN := ly_N x
  show ly_V κ b sz I 0 [(0, .ref (b + 130)), (1, .int (dz_i c))] []
  refine dz_aload_n x.1 0 d_Model_small_0 rfl rfl ?_
  refine dz_iload_n x.1 1 d_Model_small_1 rfl rfl ?_
  refine ly_callV (rest := []) x cl_Model_70 (c_Model_isCapital l D Dt b sz I c (by omega)) (by decide) (ly_Model b) rfl rfl rfl rfl (Nat.le_of_ble_eq_true rfl) d_Model_small_2 (fun v I' hp2 => ?_)
  obtain ⟨rfl, hp2I⟩ := hp2
  have hp2I := hp2I.symm
  subst hp2I
  show ly_V κ b sz I 5 [(0, .ref (b + 130)), (1, .int (dz_i c))] [.int (dz_i (if 65 ≤ c ∧ c ≤ 90 then 1 else 0))]
  refine dz_if_eq (tgt := 16) x.1 d_Model_small_5 (by decide) (dz_br _) (fun hc5 => ?_) (fun hc5 => ?_)
  · have hc5 : ¬ (65 ≤ c ∧ c ≤ 90) := dz_bf hc5
    refine dz_iload_n x.1 1 d_Model_small_16 rfl rfl ?_
    exact ly_iret x d_Model_small_17 (dz_nch (by omega)) ⟨by unfold sp_small; first | rw [if_pos (by omega)] | rw [if_neg (by omega)], rfl⟩
  · have hc5 : 65 ≤ c ∧ c ≤ 90 := dz_bt hc5
    refine dz_iload_n x.1 1 d_Model_small_8 rfl rfl ?_
    refine dz_bipush x.1 d_Model_small_9 (by decide) ?_
    refine dz_iadd (z := c + 32) x.1 d_Model_small_11 (by omega) ?_
    refine dz_i2c x.1 d_Model_small_12 (by omega) ?_
    refine dz_goto (tgt := 17) x.1 d_Model_small_13 (by decide) ?_
    exact ly_iret x d_Model_small_17 (dz_nch (by omega)) ⟨by unfold sp_small; first | rw [if_pos (by omega)] | rw [if_neg (by omega)], rfl⟩
set_option maxRecDepth 100000 in
set_option maxHeartbeats 4000000 in
theorem c_Model_markOf (l : Launch) (D : va_G) (Dt : Nat → ClassId) (b sz : Nat) (I : dz_Hp) (c : Int) (hc : 0 ≤ c ∧ c < 65536) : ly_M l D Dt b sz y_Model_markOf b_Model_markOf 2 (some .int) 1 [.ref (b + 130), .int (dz_i c)] I (fun v I' => v = some (.int (dz_i (sp_mk c))) ∧ I' = I) := by
  refine ly_enter R_Model (by decide) rfl (Nat.le_of_ble_eq_true rfl) (ly_cat _ 0 rfl) (fun κ x => ?_)
  have hN := ly_N x
  show ly_V κ b sz I 0 [(0, .ref (b + 130)), (1, .int (dz_i c))] []
  refine dz_iload_n x.1 1 d_Model_markOf_0 rfl rfl ?_
  rcases (by omega : c = 33 ∨ c = 39 ∨ c = 44 ∨ c = 45 ∨ c = 46 ∨ c = 58 ∨ c = 59 ∨ c = 63 ∨ (¬ c = 33 ∧ ¬ c = 39 ∧ ¬ c = 44 ∧ ¬ c = 45 ∧ ¬ c = 46 ∧ ¬ c = 58 ∧ ¬ c = 59 ∧ ¬ c = 63)) with hs1 | hs1 | hs1 | hs1 | hs1 | hs1 | hs1 | hs1 | hs1
  · refine dz_lookup (off := 89) (tgt := 90) x.1 d_Model_markOf_1 (by decide +kernel) (by omega) (by rw [hs1]; rfl) (by decide) ?_
    refine dz_bipush x.1 d_Model_markOf_90 (by decide) ?_
    have hv9 : sp_mk c = 22 := sp_mk_f hs1 (by decide)
    exact ly_iret x d_Model_markOf_92 rfl ⟨by rw [hv9], rfl⟩
  · refine dz_lookup (off := 95) (tgt := 96) x.1 d_Model_markOf_1 (by decide +kernel) (by omega) (by rw [hs1]; rfl) (by decide) ?_
    refine dz_iconst x.1 d_Model_markOf_96 ?_
    have hv9 : sp_mk c = 4 := sp_mk_f hs1 (by decide)
    exact ly_iret x d_Model_markOf_97 rfl ⟨by rw [hv9], rfl⟩
  · refine dz_lookup (off := 78) (tgt := 79) x.1 d_Model_markOf_1 (by decide +kernel) (by omega) (by rw [hs1]; rfl) (by decide) ?_
    refine dz_iconst x.1 d_Model_markOf_79 ?_
    have hv9 : sp_mk c = 2 := sp_mk_f hs1 (by decide)
    exact ly_iret x d_Model_markOf_80 rfl ⟨by rw [hv9], rfl⟩
  · refine dz_lookup (off := 92) (tgt := 93) x.1 d_Model_markOf_1 (by decide +kernel) (by omega) (by rw [hs1]; rfl) (by decide) ?_
    refine dz_bipush x.1 d_Model_markOf_93 (by decide) ?_
    have hv9 : sp_mk c = 36 := sp_mk_f hs1 (by decide)
    exact ly_iret x d_Model_markOf_95 rfl ⟨by rw [hv9], rfl⟩
  · refine dz_lookup (off := 75) (tgt := 76) x.1 d_Model_markOf_1 (by decide +kernel) (by omega) (by rw [hs1]; rfl) (by decide) ?_
    refine dz_bipush x.1 d_Model_markOf_76 (by decide) ?_
    have hv9 : sp_mk c = 50 := sp_mk_f hs1 (by decide)
    exact ly_iret x d_Model_markOf_78 rfl ⟨by rw [hv9], rfl⟩
  · refine dz_lookup (off := 83) (tgt := 84) x.1 d_Model_markOf_1 (by decide +kernel) (by omega) (by rw [hs1]; rfl) (by decide) ?_
    refine dz_bipush x.1 d_Model_markOf_84 (by decide) ?_
    have hv9 : sp_mk c = 18 := sp_mk_f hs1 (by decide)
    exact ly_iret x d_Model_markOf_86 rfl ⟨by rw [hv9], rfl⟩
  · refine dz_lookup (off := 80) (tgt := 81) x.1 d_Model_markOf_1 (by decide +kernel) (by omega) (by rw [hs1]; rfl) (by decide) ?_
    refine dz_bipush x.1 d_Model_markOf_81 (by decide) ?_
    have hv9 : sp_mk c = 6 := sp_mk_f hs1 (by decide)
    exact ly_iret x d_Model_markOf_83 rfl ⟨by rw [hv9], rfl⟩
  · refine dz_lookup (off := 86) (tgt := 87) x.1 d_Model_markOf_1 (by decide +kernel) (by omega) (by rw [hs1]; rfl) (by decide) ?_
    refine dz_bipush x.1 d_Model_markOf_87 (by decide) ?_
    have hv9 : sp_mk c = 38 := sp_mk_f hs1 (by decide)
    exact ly_iret x d_Model_markOf_89 rfl ⟨by rw [hv9], rfl⟩
  · refine dz_lookup (off := 97) (tgt := 98) x.1 d_Model_markOf_1 (by decide +kernel) (by omega) (by show Op.lookupswitch.offset [(33, 89), (39, 95), (44, 78), (45, 92), (46, 75), (58, 83), (59, 80), (63, 86)] 97 c = 97; (repeat rw [Op.lookupswitch.offset_cons, if_neg (by omega)]); rfl) (by decide) ?_
    refine dz_iconst x.1 d_Model_markOf_98 ?_
    have hv9 : sp_mk c = 0 := by unfold sp_mk; repeat rw [if_neg (by omega)]
    exact ly_iret x d_Model_markOf_99 rfl ⟨by rw [hv9], rfl⟩
set_option maxRecDepth 100000 in
set_option maxHeartbeats 4000000 in
theorem c_Model_cellOf (l : Launch) (D : va_G) (Dt : Nat → ClassId) (b sz : Nat) (I : dz_Hp) (c : Int) (hc : 0 ≤ c ∧ c < 65536) : ly_M l D Dt b sz y_Model_cellOf b_Model_cellOf 2 (some .int) 2 [.ref (b + 130), .int (dz_i c)] I (fun v I' => v = some (.int (dz_i (sp_mcl c))) ∧ I' = I) := by
  refine ly_enter R_Model (by decide) rfl (Nat.le_of_ble_eq_true rfl) (ly_cat _ 0 rfl) (fun κ x => ?_)
  have hN := ly_N x
  show ly_V κ b sz I 0 [(0, .ref (b + 130)), (1, .int (dz_i c))] []
  refine dz_iload_n x.1 1 d_Model_cellOf_0 rfl rfl ?_
  rcases (by omega : c = 97 ∨ c = 98 ∨ c = 99 ∨ c = 100 ∨ c = 101 ∨ c = 102 ∨ c = 103 ∨ c = 104 ∨ c = 105 ∨ c = 106 ∨ c = 107 ∨ c = 108 ∨ c = 109 ∨ c = 110 ∨ c = 111 ∨ c = 112 ∨ c = 113 ∨ c = 114 ∨ c = 115 ∨ c = 116 ∨ c = 117 ∨ c = 118 ∨ c = 119 ∨ c = 120 ∨ c = 121 ∨ c = 122 ∨ (c < 97 ∨ 122 < c)) with hs1 | hs1 | hs1 | hs1 | hs1 | hs1 | hs1 | hs1 | hs1 | hs1 | hs1 | hs1 | hs1 | hs1 | hs1 | hs1 | hs1 | hs1 | hs1 | hs1 | hs1 | hs1 | hs1 | hs1 | hs1 | hs1 | hs1
  · refine dz_tableIn (off := 119) (tgt := 120) x.1 d_Model_cellOf_1 (by omega) (by omega) (by rw [hs1]; rfl) (by decide) ?_
    refine dz_iconst x.1 d_Model_cellOf_120 ?_
    have hv9 : sp_mcl c = 1 := sp_lc_f hs1 (by decide)
    exact ly_iret x d_Model_cellOf_121 rfl ⟨by rw [hv9], rfl⟩
  · refine dz_tableIn (off := 121) (tgt := 122) x.1 d_Model_cellOf_1 (by omega) (by omega) (by rw [hs1]; rfl) (by decide) ?_
    refine dz_iconst x.1 d_Model_cellOf_122 ?_
    have hv9 : sp_mcl c = 3 := sp_lc_f hs1 (by decide)
    exact ly_iret x d_Model_cellOf_123 rfl ⟨by rw [hv9], rfl⟩
  · refine dz_tableIn (off := 123) (tgt := 124) x.1 d_Model_cellOf_1 (by omega) (by omega) (by rw [hs1]; rfl) (by decide) ?_
    refine dz_bipush x.1 d_Model_cellOf_124 (by decide) ?_
    have hv9 : sp_mcl c = 9 := sp_lc_f hs1 (by decide)
    exact ly_iret x d_Model_cellOf_126 rfl ⟨by rw [hv9], rfl⟩
  · refine dz_tableIn (off := 126) (tgt := 127) x.1 d_Model_cellOf_1 (by omega) (by omega) (by rw [hs1]; rfl) (by decide) ?_
    refine dz_bipush x.1 d_Model_cellOf_127 (by decide) ?_
    have hv9 : sp_mcl c = 25 := sp_lc_f hs1 (by decide)
    exact ly_iret x d_Model_cellOf_129 rfl ⟨by rw [hv9], rfl⟩
  · refine dz_tableIn (off := 129) (tgt := 130) x.1 d_Model_cellOf_1 (by omega) (by omega) (by rw [hs1]; rfl) (by decide) ?_
    refine dz_bipush x.1 d_Model_cellOf_130 (by decide) ?_
    have hv9 : sp_mcl c = 17 := sp_lc_f hs1 (by decide)
    exact ly_iret x d_Model_cellOf_132 rfl ⟨by rw [hv9], rfl⟩
  · refine dz_tableIn (off := 132) (tgt := 133) x.1 d_Model_cellOf_1 (by omega) (by omega) (by rw [hs1]; rfl) (by decide) ?_
    refine dz_bipush x.1 d_Model_cellOf_133 (by decide) ?_
    have hv9 : sp_mcl c = 11 := sp_lc_f hs1 (by decide)
    exact ly_iret x d_Model_cellOf_135 rfl ⟨by rw [hv9], rfl⟩
  · refine dz_tableIn (off := 135) (tgt := 136) x.1 d_Model_cellOf_1 (by omega) (by omega) (by rw [hs1]; rfl) (by decide) ?_
    refine dz_bipush x.1 d_Model_cellOf_136 (by decide) ?_
    have hv9 : sp_mcl c = 27 := sp_lc_f hs1 (by decide)
    exact ly_iret x d_Model_cellOf_138 rfl ⟨by rw [hv9], rfl⟩
  · refine dz_tableIn (off := 138) (tgt := 139) x.1 d_Model_cellOf_1 (by omega) (by omega) (by rw [hs1]; rfl) (by decide) ?_
    refine dz_bipush x.1 d_Model_cellOf_139 (by decide) ?_
    have hv9 : sp_mcl c = 19 := sp_lc_f hs1 (by decide)
    exact ly_iret x d_Model_cellOf_141 rfl ⟨by rw [hv9], rfl⟩
  · refine dz_tableIn (off := 141) (tgt := 142) x.1 d_Model_cellOf_1 (by omega) (by omega) (by rw [hs1]; rfl) (by decide) ?_
    refine dz_bipush x.1 d_Model_cellOf_142 (by decide) ?_
    have hv9 : sp_mcl c = 10 := sp_lc_f hs1 (by decide)
    exact ly_iret x d_Model_cellOf_144 rfl ⟨by rw [hv9], rfl⟩
  · refine dz_tableIn (off := 144) (tgt := 145) x.1 d_Model_cellOf_1 (by omega) (by omega) (by rw [hs1]; rfl) (by decide) ?_
    refine dz_bipush x.1 d_Model_cellOf_145 (by decide) ?_
    have hv9 : sp_mcl c = 26 := sp_lc_f hs1 (by decide)
    exact ly_iret x d_Model_cellOf_147 rfl ⟨by rw [hv9], rfl⟩
  · refine dz_tableIn (off := 147) (tgt := 148) x.1 d_Model_cellOf_1 (by omega) (by omega) (by rw [hs1]; rfl) (by decide) ?_
    refine dz_iconst x.1 d_Model_cellOf_148 ?_
    have hv9 : sp_mcl c = 5 := sp_lc_f hs1 (by decide)
    exact ly_iret x d_Model_cellOf_149 rfl ⟨by rw [hv9], rfl⟩
  · refine dz_tableIn (off := 149) (tgt := 150) x.1 d_Model_cellOf_1 (by omega) (by omega) (by rw [hs1]; rfl) (by decide) ?_
    refine dz_bipush x.1 d_Model_cellOf_150 (by decide) ?_
    have hv9 : sp_mcl c = 7 := sp_lc_f hs1 (by decide)
    exact ly_iret x d_Model_cellOf_152 rfl ⟨by rw [hv9], rfl⟩
  · refine dz_tableIn (off := 152) (tgt := 153) x.1 d_Model_cellOf_1 (by omega) (by omega) (by rw [hs1]; rfl) (by decide) ?_
    refine dz_bipush x.1 d_Model_cellOf_153 (by decide) ?_
    have hv9 : sp_mcl c = 13 := sp_lc_f hs1 (by decide)
    exact ly_iret x d_Model_cellOf_155 rfl ⟨by rw [hv9], rfl⟩
  · refine dz_tableIn (off := 155) (tgt := 156) x.1 d_Model_cellOf_1 (by omega) (by omega) (by rw [hs1]; rfl) (by decide) ?_
    refine dz_bipush x.1 d_Model_cellOf_156 (by decide) ?_
    have hv9 : sp_mcl c = 29 := sp_lc_f hs1 (by decide)
    exact ly_iret x d_Model_cellOf_158 rfl ⟨by rw [hv9], rfl⟩
  · refine dz_tableIn (off := 158) (tgt := 159) x.1 d_Model_cellOf_1 (by omega) (by omega) (by rw [hs1]; rfl) (by decide) ?_
    refine dz_bipush x.1 d_Model_cellOf_159 (by decide) ?_
    have hv9 : sp_mcl c = 21 := sp_lc_f hs1 (by decide)
    exact ly_iret x d_Model_cellOf_161 rfl ⟨by rw [hv9], rfl⟩
  · refine dz_tableIn (off := 161) (tgt := 162) x.1 d_Model_cellOf_1 (by omega) (by omega) (by rw [hs1]; rfl) (by decide) ?_
    refine dz_bipush x.1 d_Model_cellOf_162 (by decide) ?_
    have hv9 : sp_mcl c = 15 := sp_lc_f hs1 (by decide)
    exact ly_iret x d_Model_cellOf_164 rfl ⟨by rw [hv9], rfl⟩
  · refine dz_tableIn (off := 164) (tgt := 165) x.1 d_Model_cellOf_1 (by omega) (by omega) (by rw [hs1]; rfl) (by decide) ?_
    refine dz_bipush x.1 d_Model_cellOf_165 (by decide) ?_
    have hv9 : sp_mcl c = 31 := sp_lc_f hs1 (by decide)
    exact ly_iret x d_Model_cellOf_167 rfl ⟨by rw [hv9], rfl⟩
  · refine dz_tableIn (off := 167) (tgt := 168) x.1 d_Model_cellOf_1 (by omega) (by omega) (by rw [hs1]; rfl) (by decide) ?_
    refine dz_bipush x.1 d_Model_cellOf_168 (by decide) ?_
    have hv9 : sp_mcl c = 23 := sp_lc_f hs1 (by decide)
    exact ly_iret x d_Model_cellOf_170 rfl ⟨by rw [hv9], rfl⟩
  · refine dz_tableIn (off := 170) (tgt := 171) x.1 d_Model_cellOf_1 (by omega) (by omega) (by rw [hs1]; rfl) (by decide) ?_
    refine dz_bipush x.1 d_Model_cellOf_171 (by decide) ?_
    have hv9 : sp_mcl c = 14 := sp_lc_f hs1 (by decide)
    exact ly_iret x d_Model_cellOf_173 rfl ⟨by rw [hv9], rfl⟩
  · refine dz_tableIn (off := 173) (tgt := 174) x.1 d_Model_cellOf_1 (by omega) (by omega) (by rw [hs1]; rfl) (by decide) ?_
    refine dz_bipush x.1 d_Model_cellOf_174 (by decide) ?_
    have hv9 : sp_mcl c = 30 := sp_lc_f hs1 (by decide)
    exact ly_iret x d_Model_cellOf_176 rfl ⟨by rw [hv9], rfl⟩
  · refine dz_tableIn (off := 176) (tgt := 177) x.1 d_Model_cellOf_1 (by omega) (by omega) (by rw [hs1]; rfl) (by decide) ?_
    refine dz_bipush x.1 d_Model_cellOf_177 (by decide) ?_
    have hv9 : sp_mcl c = 37 := sp_lc_f hs1 (by decide)
    exact ly_iret x d_Model_cellOf_179 rfl ⟨by rw [hv9], rfl⟩
  · refine dz_tableIn (off := 179) (tgt := 180) x.1 d_Model_cellOf_1 (by omega) (by omega) (by rw [hs1]; rfl) (by decide) ?_
    refine dz_bipush x.1 d_Model_cellOf_180 (by decide) ?_
    have hv9 : sp_mcl c = 39 := sp_lc_f hs1 (by decide)
    exact ly_iret x d_Model_cellOf_182 rfl ⟨by rw [hv9], rfl⟩
  · refine dz_tableIn (off := 182) (tgt := 183) x.1 d_Model_cellOf_1 (by omega) (by omega) (by rw [hs1]; rfl) (by decide) ?_
    refine dz_bipush x.1 d_Model_cellOf_183 (by decide) ?_
    have hv9 : sp_mcl c = 58 := sp_lc_f hs1 (by decide)
    exact ly_iret x d_Model_cellOf_185 rfl ⟨by rw [hv9], rfl⟩
  · refine dz_tableIn (off := 185) (tgt := 186) x.1 d_Model_cellOf_1 (by omega) (by omega) (by rw [hs1]; rfl) (by decide) ?_
    refine dz_bipush x.1 d_Model_cellOf_186 (by decide) ?_
    have hv9 : sp_mcl c = 45 := sp_lc_f hs1 (by decide)
    exact ly_iret x d_Model_cellOf_188 rfl ⟨by rw [hv9], rfl⟩
  · refine dz_tableIn (off := 188) (tgt := 189) x.1 d_Model_cellOf_1 (by omega) (by omega) (by rw [hs1]; rfl) (by decide) ?_
    refine dz_bipush x.1 d_Model_cellOf_189 (by decide) ?_
    have hv9 : sp_mcl c = 61 := sp_lc_f hs1 (by decide)
    exact ly_iret x d_Model_cellOf_191 rfl ⟨by rw [hv9], rfl⟩
  · refine dz_tableIn (off := 191) (tgt := 192) x.1 d_Model_cellOf_1 (by omega) (by omega) (by rw [hs1]; rfl) (by decide) ?_
    refine dz_bipush x.1 d_Model_cellOf_192 (by decide) ?_
    have hv9 : sp_mcl c = 53 := sp_lc_f hs1 (by decide)
    exact ly_iret x d_Model_cellOf_194 rfl ⟨by rw [hv9], rfl⟩
  · refine dz_tableOut (tgt := 195) x.1 d_Model_cellOf_1 (by omega) (by omega) (by decide) ?_
    refine dz_aload_n x.1 0 d_Model_cellOf_195 rfl rfl ?_
    refine dz_iload_n x.1 1 d_Model_cellOf_196 rfl rfl ?_
    refine ly_callV (rest := []) x cl_Model_73 (c_Model_markOf l D Dt b sz I c hc) (by decide) (ly_Model b) rfl rfl rfl rfl (Nat.le_of_ble_eq_true rfl) d_Model_cellOf_197 (fun v I' hp197 => ?_)
    obtain ⟨rfl, hp197I⟩ := hp197
    have hp197I := hp197I.symm
    subst hp197I
    show ly_V κ b sz I 200 [(0, .ref (b + 130)), (1, .int (dz_i c))] [.int (dz_i (sp_mk c))]
    have hv9 : sp_mcl c = (sp_mk c) := if_neg (by omega)
    exact ly_iret x d_Model_cellOf_200 rfl ⟨by rw [hv9], rfl⟩
set_option maxRecDepth 100000 in
set_option maxHeartbeats 4000000 in
theorem c_Model_digitCell (l : Launch) (D : va_G) (Dt : Nat → ClassId) (b sz : Nat) (I : dz_Hp) (d : Int) (hd : 0 ≤ d ∧ d ≤ 9) : ly_M l D Dt b sz y_Model_digitCell b_Model_digitCell 2 (some .int) 3 [.ref (b + 130), .int (dz_i d)] I (fun v I' => v = some (.int (dz_i (sp_cell (d + 48)))) ∧ I' = I) := by
  refine ly_enter R_Model (by decide) rfl (Nat.le_of_ble_eq_true rfl) (ly_cat _ 0 rfl) (fun κ x => ?_)
  have hN := ly_N x
  show ly_V κ b sz I 0 [(0, .ref (b + 130)), (1, .int (dz_i d))] []
  refine dz_aload_n x.1 0 d_Model_digitCell_0 rfl rfl ?_
  refine dz_iload_n x.1 1 d_Model_digitCell_1 rfl rfl ?_
  refine dz_if_ne (tgt := 10) x.1 d_Model_digitCell_2 (by decide) (by omega) (fun hc2 => ?_) (fun hc2 => ?_)
  · refine dz_bipush x.1 d_Model_digitCell_10 (by decide) ?_
    refine dz_iload_n x.1 1 d_Model_digitCell_12 rfl rfl ?_
    refine dz_iadd (z := d + 97) x.1 d_Model_digitCell_13 (by omega) ?_
    refine dz_iconst x.1 d_Model_digitCell_14 ?_
    refine dz_isub (z := d + 96) x.1 d_Model_digitCell_15 (by omega) ?_
    refine dz_i2c x.1 d_Model_digitCell_16 (by omega) ?_
    refine ly_callV (rest := []) x cl_Model_77 (c_Model_cellOf l D Dt b sz I (d + 96) (by omega)) (by decide) (ly_Model b) rfl rfl rfl rfl (Nat.le_of_ble_eq_true rfl) d_Model_digitCell_17 (fun v I' hp17 => ?_)
    obtain ⟨rfl, hp17I⟩ := hp17
    have hp17I := hp17I.symm
    subst hp17I
    show ly_V κ b sz I 20 [(0, .ref (b + 130)), (1, .int (dz_i d))] [.int (dz_i (sp_mcl (d + 96)))]
    have hv9 : sp_cell (d + 48) = (sp_mcl (d + 96)) := by rw [← sp_dc hd, if_neg hc2]
    exact ly_iret x d_Model_digitCell_20 rfl ⟨by rw [hv9], rfl⟩
  · refine dz_bipush x.1 d_Model_digitCell_5 (by decide) ?_
    refine dz_goto (tgt := 16) x.1 d_Model_digitCell_7 (by decide) ?_
    refine dz_i2c x.1 d_Model_digitCell_16 (by omega) ?_
    refine ly_callV (rest := []) x cl_Model_77 (c_Model_cellOf l D Dt b sz I 106 (by omega)) (by decide) (ly_Model b) rfl rfl rfl rfl (Nat.le_of_ble_eq_true rfl) d_Model_digitCell_17 (fun v I' hp17 => ?_)
    obtain ⟨rfl, hp17I⟩ := hp17
    have hp17I := hp17I.symm
    subst hp17I
    show ly_V κ b sz I 20 [(0, .ref (b + 130)), (1, .int (dz_i d))] [.int (dz_i (sp_mcl 106))]
    have hv9 : sp_cell (d + 48) = (sp_mcl 106) := by rw [← sp_dc hd, if_pos hc2]
    exact ly_iret x d_Model_digitCell_20 rfl ⟨by rw [hv9], rfl⟩
set_option maxRecDepth 100000 in
set_option maxHeartbeats 4000000 in
theorem c_Model_kindOf (l : Launch) (D : va_G) (Dt : Nat → ClassId) (b sz : Nat) (I : dz_Hp) (c : Int) (hc : 0 ≤ c ∧ c < 65536) : ly_M l D Dt b sz y_Model_kindOf b_Model_kindOf 2 (some .int) 1 [.ref (b + 130), .int (dz_i c)] I (fun v I' => v = some (.int (dz_i (sp_ix 0 c))) ∧ I' = I) := by
  refine ly_enter R_Model (by decide) rfl (Nat.le_of_ble_eq_true rfl) (ly_cat _ 0 rfl) (fun κ x => ?_)
  have hN := ly_N x
  show ly_V κ b sz I 0 [(0, .ref (b + 130)), (1, .int (dz_i c))] []
  refine dz_iload_n x.1 1 d_Model_kindOf_0 rfl rfl ?_
  refine dz_bipush x.1 d_Model_kindOf_1 (by decide) ?_
  refine dz_icmp_ne (tgt := 10) x.1 d_Model_kindOf_3 (by decide) (by omega) (by omega) (fun hc3 => ?_) (fun hc3 => ?_)
  · refine dz_iload_n x.1 1 d_Model_kindOf_10 rfl rfl ?_
    refine dz_bipush x.1 d_Model_kindOf_11 (by decide) ?_
    refine dz_icmp_ne (tgt := 20) x.1 d_Model_kindOf_13 (by decide) (by omega) (by omega) (fun hc13 => ?_) (fun hc13 => ?_)
    · refine dz_iload_n x.1 1 d_Model_kindOf_20 rfl rfl ?_
      refine dz_bipush x.1 d_Model_kindOf_21 (by decide) ?_
      refine dz_icmp_ne (tgt := 30) x.1 d_Model_kindOf_23 (by decide) (by omega) (by omega) (fun hc23 => ?_) (fun hc23 => ?_)
      · refine dz_iload_n x.1 1 d_Model_kindOf_30 rfl rfl ?_
        refine dz_bipush x.1 d_Model_kindOf_31 (by decide) ?_
        refine dz_icmp_ne (tgt := 40) x.1 d_Model_kindOf_33 (by decide) (by omega) (by omega) (fun hc33 => ?_) (fun hc33 => ?_)
        · refine dz_iload_n x.1 1 d_Model_kindOf_40 rfl rfl ?_
          refine dz_bipush x.1 d_Model_kindOf_41 (by decide) ?_
          refine dz_icmp_ne (tgt := 50) x.1 d_Model_kindOf_43 (by decide) (by omega) (by omega) (fun hc43 => ?_) (fun hc43 => ?_)
          · refine dz_iconst x.1 d_Model_kindOf_50 ?_
            exact ly_iret x d_Model_kindOf_51 rfl ⟨by unfold sp_ix; rw [if_pos rfl]; (repeat (first | rw [if_pos (by omega)] | rw [if_neg (by omega)])), rfl⟩
          · refine dz_iconst x.1 d_Model_kindOf_46 ?_
            refine dz_goto (tgt := 51) x.1 d_Model_kindOf_47 (by decide) ?_
            exact ly_iret x d_Model_kindOf_51 rfl ⟨by unfold sp_ix; rw [if_pos rfl]; (repeat (first | rw [if_pos (by omega)] | rw [if_neg (by omega)])), rfl⟩
        · refine dz_iconst x.1 d_Model_kindOf_36 ?_
          refine dz_goto (tgt := 51) x.1 d_Model_kindOf_37 (by decide) ?_
          exact ly_iret x d_Model_kindOf_51 rfl ⟨by unfold sp_ix; rw [if_pos rfl]; (repeat (first | rw [if_pos (by omega)] | rw [if_neg (by omega)])), rfl⟩
      · refine dz_iconst x.1 d_Model_kindOf_26 ?_
        refine dz_goto (tgt := 51) x.1 d_Model_kindOf_27 (by decide) ?_
        exact ly_iret x d_Model_kindOf_51 rfl ⟨by unfold sp_ix; rw [if_pos rfl]; (repeat (first | rw [if_pos (by omega)] | rw [if_neg (by omega)])), rfl⟩
    · refine dz_iconst x.1 d_Model_kindOf_16 ?_
      refine dz_goto (tgt := 51) x.1 d_Model_kindOf_17 (by decide) ?_
      exact ly_iret x d_Model_kindOf_51 rfl ⟨by unfold sp_ix; rw [if_pos rfl]; (repeat (first | rw [if_pos (by omega)] | rw [if_neg (by omega)])), rfl⟩
  · refine dz_iconst x.1 d_Model_kindOf_6 ?_
    refine dz_goto (tgt := 51) x.1 d_Model_kindOf_7 (by decide) ?_
    exact ly_iret x d_Model_kindOf_51 rfl ⟨by unfold sp_ix; rw [if_pos rfl]; (repeat (first | rw [if_pos (by omega)] | rw [if_neg (by omega)])), rfl⟩
set_option maxRecDepth 100000 in
set_option maxHeartbeats 4000000 in
theorem c_Model_indentOf (l : Launch) (D : va_G) (Dt : Nat → ClassId) (b sz : Nat) (I : dz_Hp) (k n : Int) (hk : 0 ≤ k ∧ k ≤ 3) (hn : -1000 ≤ n ∧ n ≤ 1000) : ly_M l D Dt b sz y_Model_indentOf b_Model_indentOf 3 (some .int) 1 [.ref (b + 130), .int (dz_i k), .int (dz_i n)] I (fun v I' => v = some (.int (dz_i (sp_ind k n))) ∧ I' = I) := by
  refine ly_enter R_Model (by decide) rfl (Nat.le_of_ble_eq_true rfl) (ly_cat _ 0 rfl) (fun κ x => ?_)
  have hN := ly_N x
  show ly_V κ b sz I 0 [(0, .ref (b + 130)), (1, .int (dz_i k)), (2, .int (dz_i n))] []
  refine dz_iload_n x.1 1 d_Model_indentOf_0 rfl rfl ?_
  refine dz_if_ne (tgt := 12) x.1 d_Model_indentOf_1 (by decide) (by omega) (fun hc1 => ?_) (fun hc1 => ?_)
  · refine dz_iload_n x.1 1 d_Model_indentOf_12 rfl rfl ?_
    refine dz_iconst x.1 d_Model_indentOf_13 ?_
    refine dz_icmp_ne (tgt := 25) x.1 d_Model_indentOf_14 (by decide) (by omega) (by omega) (fun hc14 => ?_) (fun hc14 => ?_)
    · refine dz_iconst x.1 d_Model_indentOf_25 ?_
      exact ly_iret x d_Model_indentOf_26 rfl ⟨by first | (exfalso; omega) | (unfold sp_ind; (repeat (first | rw [if_pos (by omega)] | rw [if_neg (by omega)]))), rfl⟩
    · refine dz_iload_n x.1 2 d_Model_indentOf_17 rfl rfl ?_
      refine dz_if_le (tgt := 25) x.1 d_Model_indentOf_18 (by decide) (by omega) (fun hc18 => ?_) (fun hc18 => ?_)
      · refine dz_iconst x.1 d_Model_indentOf_25 ?_
        exact ly_iret x d_Model_indentOf_26 rfl ⟨by first | (exfalso; omega) | (unfold sp_ind; (repeat (first | rw [if_pos (by omega)] | rw [if_neg (by omega)]))), rfl⟩
      · refine dz_iconst x.1 d_Model_indentOf_21 ?_
        refine dz_goto (tgt := 26) x.1 d_Model_indentOf_22 (by decide) ?_
        exact ly_iret x d_Model_indentOf_26 rfl ⟨by first | (exfalso; omega) | (unfold sp_ind; (repeat (first | rw [if_pos (by omega)] | rw [if_neg (by omega)]))), rfl⟩
  · refine dz_iload_n x.1 2 d_Model_indentOf_4 rfl rfl ?_
    refine dz_if_ne (tgt := 12) x.1 d_Model_indentOf_5 (by decide) (by omega) (fun hc5 => ?_) (fun hc5 => ?_)
    · refine dz_iload_n x.1 1 d_Model_indentOf_12 rfl rfl ?_
      refine dz_iconst x.1 d_Model_indentOf_13 ?_
      refine dz_icmp_ne (tgt := 25) x.1 d_Model_indentOf_14 (by decide) (by omega) (by omega) (fun hc14 => ?_) (fun hc14 => ?_)
      · refine dz_iconst x.1 d_Model_indentOf_25 ?_
        exact ly_iret x d_Model_indentOf_26 rfl ⟨by first | (exfalso; omega) | (unfold sp_ind; (repeat (first | rw [if_pos (by omega)] | rw [if_neg (by omega)]))), rfl⟩
      · refine dz_iload_n x.1 2 d_Model_indentOf_17 rfl rfl ?_
        refine dz_if_le (tgt := 25) x.1 d_Model_indentOf_18 (by decide) (by omega) (fun hc18 => ?_) (fun hc18 => ?_)
        · refine dz_iconst x.1 d_Model_indentOf_25 ?_
          exact ly_iret x d_Model_indentOf_26 rfl ⟨by first | (exfalso; omega) | (unfold sp_ind; (repeat (first | rw [if_pos (by omega)] | rw [if_neg (by omega)]))), rfl⟩
        · refine dz_iconst x.1 d_Model_indentOf_21 ?_
          refine dz_goto (tgt := 26) x.1 d_Model_indentOf_22 (by decide) ?_
          exact ly_iret x d_Model_indentOf_26 rfl ⟨by first | (exfalso; omega) | (unfold sp_ind; (repeat (first | rw [if_pos (by omega)] | rw [if_neg (by omega)]))), rfl⟩
    · refine dz_iconst x.1 d_Model_indentOf_8 ?_
      refine dz_goto (tgt := 26) x.1 d_Model_indentOf_9 (by decide) ?_
      exact ly_iret x d_Model_indentOf_26 rfl ⟨by first | (exfalso; omega) | (unfold sp_ind; (repeat (first | rw [if_pos (by omega)] | rw [if_neg (by omega)]))), rfl⟩
set_option maxRecDepth 100000 in
set_option maxHeartbeats 4000000 in
theorem c_Model_characterOf (l : Launch) (D : va_G) (Dt : Nat → ClassId) (b sz : Nat) (I : dz_Hp) (q : Int) (hq : 0 ≤ q ∧ q < 64) : ly_M l D Dt b sz y_Model_characterOf b_Model_characterOf 3 (some .char) 3 [.ref (b + 130), .int (dz_i q)] I (fun v I' => v = some (.int (dz_i (sp_chr q))) ∧ I' = I) := by
  refine ly_enter R_Model (by decide) rfl (Nat.le_of_ble_eq_true rfl) (ly_cat _ 0 rfl) (fun κ x => ?_)
  have hN := ly_N x
  have loop2 : ∀ (k : Nat) (c : Int), (33 ≤ c ∧ c + (k : Int) = 65) → (∀ j : Int, 97 ≤ j → j < 123 → ¬ sp_mcl j = q) → (∀ j : Int, 33 ≤ j → j < c → ¬ (0 < q ∧ sp_mk j = q)) → ly_V κ b sz I 31 [(0, .ref (b + 130)), (1, .int (dz_i q)), (2, .int (dz_i c))] [] := by
    intro k
    induction k with
    | zero =>
      intro c hc h1 h2
      refine dz_iload_n x.1 2 d_Model_characterOf_31 rfl rfl ?_
      refine dz_bipush x.1 d_Model_characterOf_32 (by decide) ?_
      refine dz_icmp_ge (tgt := 60) x.1 d_Model_characterOf_34 (by decide) (by omega) (by omega) (fun hc34 => ?_) (fun hc34 => by exfalso; omega)
      refine dz_bipush x.1 d_Model_characterOf_60 (by decide) ?_
      exact ly_iret x d_Model_characterOf_62 (dz_nch (by omega)) ⟨by rw [sp_chr_n hq h1 (fun j j1 j2 => h2 j j1 (by omega))], rfl⟩
    | succ k ih =>
      intro c hc h1 h2
      refine dz_iload_n x.1 2 d_Model_characterOf_31 rfl rfl ?_
      refine dz_bipush x.1 d_Model_characterOf_32 (by decide) ?_
      refine dz_icmp_ge (tgt := 60) x.1 d_Model_characterOf_34 (by decide) (by omega) (by omega) (fun hc34 => by exfalso; omega) (fun hc34 => ?_)
      refine dz_iload_n x.1 1 d_Model_characterOf_37 rfl rfl ?_
      refine dz_if_le (tgt := 52) x.1 d_Model_characterOf_38 (by decide) (by omega) (fun hc38 => ?_) (fun hc38 => ?_)
      · refine dz_iload_n x.1 2 d_Model_characterOf_52 rfl rfl ?_
        refine dz_iconst x.1 d_Model_characterOf_53 ?_
        refine dz_iadd (z := c + 1) x.1 d_Model_characterOf_54 (by omega) ?_
        refine dz_i2c x.1 d_Model_characterOf_55 (by omega) ?_
        refine dz_istore_n (ls' := [(0, .ref (b + 130)), (1, .int (dz_i q)), (2, .int (dz_i (c + 1)))]) x.1 d_Model_characterOf_56 rfl hN (by decide) rfl ?_
        refine dz_goto (tgt := 31) x.1 d_Model_characterOf_57 (by decide) ?_
        exact ih (c + 1) (by omega) h1 (fun j j1 j2 => by
          by_cases e : j = c
          · rw [e]; intro hz; first | omega | exact hc47 hz.2
          · exact h2 j j1 (by omega))
      · refine dz_aload_n x.1 0 d_Model_characterOf_41 rfl rfl ?_
        refine dz_iload_n x.1 2 d_Model_characterOf_42 rfl rfl ?_
        refine ly_callV (rest := []) x cl_Model_73 (c_Model_markOf l D Dt b sz I c (by omega)) (by decide) (ly_Model b) rfl rfl rfl rfl (Nat.le_of_ble_eq_true rfl) d_Model_characterOf_43 (fun v I' hp43 => ?_)
        obtain ⟨rfl, hp43I⟩ := hp43
        have hp43I := hp43I.symm
        subst hp43I
        have hcr := sp_mk_rng c
        show ly_V κ b sz I 46 [(0, .ref (b + 130)), (1, .int (dz_i q)), (2, .int (dz_i c))] [.int (dz_i (sp_mk c))]
        refine dz_iload_n x.1 1 d_Model_characterOf_46 rfl rfl ?_
        refine dz_icmp_ne (tgt := 52) x.1 d_Model_characterOf_47 (by decide) (by omega) (by omega) (fun hc47 => ?_) (fun hc47 => ?_)
        · refine dz_iload_n x.1 2 d_Model_characterOf_52 rfl rfl ?_
          refine dz_iconst x.1 d_Model_characterOf_53 ?_
          refine dz_iadd (z := c + 1) x.1 d_Model_characterOf_54 (by omega) ?_
          refine dz_i2c x.1 d_Model_characterOf_55 (by omega) ?_
          refine dz_istore_n (ls' := [(0, .ref (b + 130)), (1, .int (dz_i q)), (2, .int (dz_i (c + 1)))]) x.1 d_Model_characterOf_56 rfl hN (by decide) rfl ?_
          refine dz_goto (tgt := 31) x.1 d_Model_characterOf_57 (by decide) ?_
          exact ih (c + 1) (by omega) h1 (fun j j1 j2 => by
            by_cases e : j = c
            · rw [e]; intro hz; first | omega | exact hc47 hz.2
            · exact h2 j j1 (by omega))
        · refine dz_iload_n x.1 2 d_Model_characterOf_50 rfl rfl ?_
          exact ly_iret x d_Model_characterOf_51 (dz_nch (by omega)) ⟨by rw [← hc47, sp_chr_m (by omega) (by omega)], rfl⟩
  have loop1 : ∀ (k : Nat) (c : Int), (97 ≤ c ∧ c + (k : Int) = 123) → (∀ j : Int, 97 ≤ j → j < c → ¬ sp_mcl j = q) → ly_V κ b sz I 3 [(0, .ref (b + 130)), (1, .int (dz_i q)), (2, .int (dz_i c))] [] := by
    intro k
    induction k with
    | zero =>
      intro c hc h1
      refine dz_iload_n x.1 2 d_Model_characterOf_3 rfl rfl ?_
      refine dz_bipush x.1 d_Model_characterOf_4 (by decide) ?_
      refine dz_icmp_gt (tgt := 28) x.1 d_Model_characterOf_6 (by decide) (by omega) (by omega) (fun hc6 => ?_) (fun hc6 => by exfalso; omega)
      refine dz_bipush x.1 d_Model_characterOf_28 (by decide) ?_
      refine dz_istore_n (ls' := [(0, .ref (b + 130)), (1, .int (dz_i q)), (2, .int (dz_i 33))]) x.1 d_Model_characterOf_30 rfl hN (by decide) rfl ?_
      exact loop2 32 33 (by omega) (fun j j1 j2 => h1 j j1 (by omega)) (fun j j1 j2 => by omega)
    | succ k ih =>
      intro c hc h1
      refine dz_iload_n x.1 2 d_Model_characterOf_3 rfl rfl ?_
      refine dz_bipush x.1 d_Model_characterOf_4 (by decide) ?_
      refine dz_icmp_gt (tgt := 28) x.1 d_Model_characterOf_6 (by decide) (by omega) (by omega) (fun hc6 => by exfalso; omega) (fun hc6 => ?_)
      refine dz_aload_n x.1 0 d_Model_characterOf_9 rfl rfl ?_
      refine dz_iload_n x.1 2 d_Model_characterOf_10 rfl rfl ?_
      refine ly_callV (rest := []) x cl_Model_77 (c_Model_cellOf l D Dt b sz I c (by omega)) (by decide) (ly_Model b) rfl rfl rfl rfl (Nat.le_of_ble_eq_true rfl) d_Model_characterOf_11 (fun v I' hp11 => ?_)
      obtain ⟨rfl, hp11I⟩ := hp11
      have hp11I := hp11I.symm
      subst hp11I
      have hcr := sp_mcl_rng c
      show ly_V κ b sz I 14 [(0, .ref (b + 130)), (1, .int (dz_i q)), (2, .int (dz_i c))] [.int (dz_i (sp_mcl c))]
      refine dz_iload_n x.1 1 d_Model_characterOf_14 rfl rfl ?_
      refine dz_icmp_ne (tgt := 20) x.1 d_Model_characterOf_15 (by decide) (by omega) (by omega) (fun hc15 => ?_) (fun hc15 => ?_)
      · refine dz_iload_n x.1 2 d_Model_characterOf_20 rfl rfl ?_
        refine dz_iconst x.1 d_Model_characterOf_21 ?_
        refine dz_iadd (z := c + 1) x.1 d_Model_characterOf_22 (by omega) ?_
        refine dz_i2c x.1 d_Model_characterOf_23 (by omega) ?_
        refine dz_istore_n (ls' := [(0, .ref (b + 130)), (1, .int (dz_i q)), (2, .int (dz_i (c + 1)))]) x.1 d_Model_characterOf_24 rfl hN (by decide) rfl ?_
        refine dz_goto (tgt := 3) x.1 d_Model_characterOf_25 (by decide) ?_
        exact ih (c + 1) (by omega) (fun j j1 j2 => by
          by_cases e : j = c
          · rw [e]; exact hc15
          · exact h1 j j1 (by omega))
      · refine dz_iload_n x.1 2 d_Model_characterOf_18 rfl rfl ?_
        exact ly_iret x d_Model_characterOf_19 (dz_nch (by omega)) ⟨by rw [← hc15, sp_chr_l (by omega)], rfl⟩
  show ly_V κ b sz I 0 [(0, .ref (b + 130)), (1, .int (dz_i q))] []
  refine dz_bipush x.1 d_Model_characterOf_0 (by decide) ?_
  refine dz_istore_n (ls' := [(0, .ref (b + 130)), (1, .int (dz_i q)), (2, .int (dz_i 97))]) x.1 d_Model_characterOf_2 rfl hN (by decide) rfl ?_
  exact loop1 26 97 (by omega) (fun j j1 j2 => by omega)
set_option maxRecDepth 100000 in
set_option maxHeartbeats 4000000 in
theorem c_Model_digitOf (l : Launch) (D : va_G) (Dt : Nat → ClassId) (b sz : Nat) (I : dz_Hp) (q : Int) (hq : 0 ≤ q ∧ q < 64) : ly_M l D Dt b sz y_Model_digitOf b_Model_digitOf 3 (some .int) 4 [.ref (b + 130), .int (dz_i q)] I (fun v I' => v = some (.int (dz_i (sp_dg q))) ∧ I' = I) := by
  refine ly_enter R_Model (by decide) rfl (Nat.le_of_ble_eq_true rfl) (ly_cat _ 0 rfl) (fun κ x => ?_)
  have hN := ly_N x
  have loop : ∀ (k : Nat) (d9 : Int), (0 ≤ d9 ∧ d9 + (k : Int) = 10) → (∀ j : Int, 0 ≤ j → j < d9 → ¬ sp_cell (j + 48) = q) → ly_V κ b sz I 2 [(0, .ref (b + 130)), (1, .int (dz_i q)), (2, .int (dz_i d9))] [] := by
    intro k
    induction k with
    | zero =>
      intro d9 hd h1
      refine dz_iload_n x.1 2 d_Model_digitOf_2 rfl rfl ?_
      refine dz_bipush x.1 d_Model_digitOf_3 (by decide) ?_
      refine dz_icmp_ge (tgt := 25) x.1 d_Model_digitOf_5 (by decide) (by omega) (by omega) (fun hc5 => ?_) (fun hc5 => by exfalso; omega)
      refine dz_iconst x.1 d_Model_digitOf_25 ?_
      exact ly_iret x d_Model_digitOf_26 rfl ⟨by rw [sp_dg_n hq (fun j j1 j2 => h1 j j1 (by omega))], rfl⟩
    | succ k ih =>
      intro d9 hd h1
      refine dz_iload_n x.1 2 d_Model_digitOf_2 rfl rfl ?_
      refine dz_bipush x.1 d_Model_digitOf_3 (by decide) ?_
      refine dz_icmp_ge (tgt := 25) x.1 d_Model_digitOf_5 (by decide) (by omega) (by omega) (fun hc5 => by exfalso; omega) (fun hc5 => ?_)
      refine dz_aload_n x.1 0 d_Model_digitOf_8 rfl rfl ?_
      refine dz_iload_n x.1 2 d_Model_digitOf_9 rfl rfl ?_
      refine ly_callV (rest := []) x cl_Model_128 (c_Model_digitCell l D Dt b sz I d9 (by omega)) (by decide) (ly_Model b) rfl rfl rfl rfl (Nat.le_of_ble_eq_true rfl) d_Model_digitOf_10 (fun v I' hp10 => ?_)
      obtain ⟨rfl, hp10I⟩ := hp10
      have hp10I := hp10I.symm
      subst hp10I
      have hcr := sp_cell_rng (d9 + 48)
      show ly_V κ b sz I 13 [(0, .ref (b + 130)), (1, .int (dz_i q)), (2, .int (dz_i d9))] [.int (dz_i (sp_cell (d9 + 48)))]
      refine dz_iload_n x.1 1 d_Model_digitOf_13 rfl rfl ?_
      refine dz_icmp_ne (tgt := 19) x.1 d_Model_digitOf_14 (by decide) (by omega) (by omega) (fun hc14 => ?_) (fun hc14 => ?_)
      · refine dz_iinc (z := d9 + 1) (ls' := [(0, .ref (b + 130)), (1, .int (dz_i q)), (2, .int (dz_i (d9 + 1)))]) x.1 2 d_Model_digitOf_19 rfl hN (by decide) (by omega) rfl ?_
        refine dz_goto (tgt := 2) x.1 d_Model_digitOf_22 (by decide) ?_
        exact ih (d9 + 1) (by omega) (fun j j1 j2 => by
          by_cases e : j = d9
          · rw [e]; exact hc14
          · exact h1 j j1 (by omega))
      · refine dz_iload_n x.1 2 d_Model_digitOf_17 rfl rfl ?_
        exact ly_iret x d_Model_digitOf_18 rfl ⟨by rw [sp_dg_t (by omega) hc14], rfl⟩
  show ly_V κ b sz I 0 [(0, .ref (b + 130)), (1, .int (dz_i q))] []
  refine dz_iconst x.1 d_Model_digitOf_0 ?_
  refine dz_istore_n (ls' := [(0, .ref (b + 130)), (1, .int (dz_i q)), (2, .int (dz_i 0))]) x.1 d_Model_digitOf_1 rfl hN (by decide) rfl ?_
  exact loop 10 0 (by omega) (fun j j1 j2 => by omega)
set_option maxRecDepth 100000 in
set_option maxHeartbeats 4000000 in
theorem c_Model_applies (l : Launch) (D : va_G) (Dt : Nat → ClassId) (b sz : Nat) (I : dz_Hp) (k p mn bg e : Int) (hk : 0 ≤ k ∧ k ≤ 4) (hp : 0 ≤ p ∧ p < 10000) (hm : 0 ≤ mn ∧ mn < 100) (hb : 0 ≤ bg ∧ bg < 10000) (he : 0 ≤ e ∧ e < 10000) (hin : p + mn ≤ e) : ly_M l D Dt b sz y_Model_applies b_Model_applies 8 (some .boolean) 1 [.ref (b + 130), .int (dz_i k), .int (dz_i p), .int (dz_i mn), .int (dz_i bg), .int (dz_i e)] I (fun v I' => v = some (.int (dz_i (if sp_app k (decide (p = bg)) (decide (p + mn = e)) = true then 1 else 0))) ∧ I' = I) := by
  refine ly_enter R_Model (by decide) rfl (Nat.le_of_ble_eq_true rfl) (ly_cat _ 0 rfl) (fun κ x => ?_)
  have hN := ly_N x
  show ly_V κ b sz I 0 [(0, .ref (b + 130)), (1, .int (dz_i k)), (2, .int (dz_i p)), (3, .int (dz_i mn)), (4, .int (dz_i bg)), (5, .int (dz_i e))] []
  refine dz_iload_n x.1 2 d_Model_applies_0 rfl rfl ?_
  refine dz_iload x.1 4 d_Model_applies_1 rfl ?_
  refine dz_icmp_ne (tgt := 10) x.1 d_Model_applies_3 (by decide) (by omega) (by omega) (fun hc3 => ?_) (fun hc3 => ?_)
  · refine dz_iconst x.1 d_Model_applies_10 ?_
    refine dz_istore (ls' := [(0, .ref (b + 130)), (1, .int (dz_i k)), (2, .int (dz_i p)), (3, .int (dz_i mn)), (4, .int (dz_i bg)), (5, .int (dz_i e)), (6, .int (dz_i 0))]) x.1 d_Model_applies_11 hN (by decide) rfl ?_
    refine dz_iload_n x.1 2 d_Model_applies_13 rfl rfl ?_
    refine dz_iload_n x.1 3 d_Model_applies_14 rfl rfl ?_
    refine dz_iadd (z := p + mn) x.1 d_Model_applies_15 (by omega) ?_
    refine dz_iload x.1 5 d_Model_applies_16 rfl ?_
    refine dz_icmp_ge (tgt := 25) x.1 d_Model_applies_18 (by decide) (by omega) (by omega) (fun hc18 => ?_) (fun hc18 => ?_)
    · refine dz_iconst x.1 d_Model_applies_25 ?_
      refine dz_istore (ls' := [(0, .ref (b + 130)), (1, .int (dz_i k)), (2, .int (dz_i p)), (3, .int (dz_i mn)), (4, .int (dz_i bg)), (5, .int (dz_i e)), (6, .int (dz_i 0)), (7, .int (dz_i 0))]) x.1 d_Model_applies_26 hN (by decide) rfl ?_
      refine dz_iload_n x.1 1 d_Model_applies_28 rfl rfl ?_
      refine dz_iconst x.1 d_Model_applies_29 ?_
      refine dz_icmp_eq (tgt := 92) x.1 d_Model_applies_30 (by decide) (by omega) (by omega) (fun hc30 => ?_) (fun hc30 => ?_)
      · refine dz_iconst x.1 d_Model_applies_92 ?_
        refine dz_goto (tgt := 97) x.1 d_Model_applies_93 (by decide) ?_
        have hN9 : sp_app k (decide (p = bg)) (decide (p + mn = e)) = true := by
          by_cases h9 : False
          · exact h9.elim
          · first
              | (exfalso; omega)
              | (first | rw [decide_eq_true (show p = bg by omega)] | rw [decide_eq_false (show ¬ p = bg by omega)]) <;> (first | rw [decide_eq_true (show p + mn = e by omega)] | rw [decide_eq_false (show ¬ p + mn = e by omega)]) <;> unfold sp_app <;> (repeat (first | rw [if_pos (by omega)] | rw [if_neg (by omega)])) <;> rfl
        exact ly_iret x d_Model_applies_97 (dz_nbo (by omega)) ⟨by rw [hN9]; rfl, rfl⟩
      · refine dz_iload_n x.1 1 d_Model_applies_33 rfl rfl ?_
        refine dz_if_ne (tgt := 47) x.1 d_Model_applies_34 (by decide) (by omega) (fun hc34 => ?_) (fun hc34 => ?_)
        · refine dz_iload_n x.1 1 d_Model_applies_47 rfl rfl ?_
          refine dz_iconst x.1 d_Model_applies_48 ?_
          refine dz_icmp_ne (tgt := 62) x.1 d_Model_applies_49 (by decide) (by omega) (by omega) (fun hc49 => ?_) (fun hc49 => ?_)
          · refine dz_iload_n x.1 1 d_Model_applies_62 rfl rfl ?_
            refine dz_iconst x.1 d_Model_applies_63 ?_
            refine dz_icmp_ne (tgt := 77) x.1 d_Model_applies_64 (by decide) (by omega) (by omega) (fun hc64 => ?_) (fun hc64 => ?_)
            · refine dz_iload_n x.1 1 d_Model_applies_77 rfl rfl ?_
              refine dz_iconst x.1 d_Model_applies_78 ?_
              refine dz_icmp_ne (tgt := 96) x.1 d_Model_applies_79 (by decide) (by omega) (by omega) (fun hc79 => ?_) (fun hc79 => ?_)
              · refine dz_iconst x.1 d_Model_applies_96 ?_
                have hN9 : sp_app k (decide (p = bg)) (decide (p + mn = e)) = false := by
                  by_cases h9 : False
                  · exact h9.elim
                  · first
                      | (exfalso; omega)
                      | (first | rw [decide_eq_true (show p = bg by omega)] | rw [decide_eq_false (show ¬ p = bg by omega)]) <;> (first | rw [decide_eq_true (show p + mn = e by omega)] | rw [decide_eq_false (show ¬ p + mn = e by omega)]) <;> unfold sp_app <;> (repeat (first | rw [if_pos (by omega)] | rw [if_neg (by omega)])) <;> rfl
                exact ly_iret x d_Model_applies_97 (dz_nbo (by omega)) ⟨by rw [hN9]; rfl, rfl⟩
              · refine dz_iload x.1 6 d_Model_applies_82 rfl ?_
                refine dz_if_ne (tgt := 96) x.1 d_Model_applies_84 (by decide) (by omega) (fun hc84 => by exfalso; omega) (fun hc84 => ?_)
                refine dz_iload x.1 7 d_Model_applies_87 rfl ?_
                refine dz_if_ne (tgt := 96) x.1 d_Model_applies_89 (by decide) (by omega) (fun hc89 => by exfalso; omega) (fun hc89 => ?_)
                refine dz_iconst x.1 d_Model_applies_92 ?_
                refine dz_goto (tgt := 97) x.1 d_Model_applies_93 (by decide) ?_
                have hN9 : sp_app k (decide (p = bg)) (decide (p + mn = e)) = true := by
                  by_cases h9 : False
                  · exact h9.elim
                  · first
                      | (exfalso; omega)
                      | (first | rw [decide_eq_true (show p = bg by omega)] | rw [decide_eq_false (show ¬ p = bg by omega)]) <;> (first | rw [decide_eq_true (show p + mn = e by omega)] | rw [decide_eq_false (show ¬ p + mn = e by omega)]) <;> unfold sp_app <;> (repeat (first | rw [if_pos (by omega)] | rw [if_neg (by omega)])) <;> rfl
                exact ly_iret x d_Model_applies_97 (dz_nbo (by omega)) ⟨by rw [hN9]; rfl, rfl⟩
            · refine dz_iload x.1 6 d_Model_applies_67 rfl ?_
              refine dz_if_ne (tgt := 77) x.1 d_Model_applies_69 (by decide) (by omega) (fun hc69 => by exfalso; omega) (fun hc69 => ?_)
              refine dz_iload x.1 7 d_Model_applies_72 rfl ?_
              refine dz_if_ne (tgt := 92) x.1 d_Model_applies_74 (by decide) (by omega) (fun hc74 => by exfalso; omega) (fun hc74 => ?_)
              refine dz_iload_n x.1 1 d_Model_applies_77 rfl rfl ?_
              refine dz_iconst x.1 d_Model_applies_78 ?_
              refine dz_icmp_ne (tgt := 96) x.1 d_Model_applies_79 (by decide) (by omega) (by omega) (fun hc79 => ?_) (fun hc79 => ?_)
              · refine dz_iconst x.1 d_Model_applies_96 ?_
                have hN9 : sp_app k (decide (p = bg)) (decide (p + mn = e)) = false := by
                  by_cases h9 : False
                  · exact h9.elim
                  · first
                      | (exfalso; omega)
                      | (first | rw [decide_eq_true (show p = bg by omega)] | rw [decide_eq_false (show ¬ p = bg by omega)]) <;> (first | rw [decide_eq_true (show p + mn = e by omega)] | rw [decide_eq_false (show ¬ p + mn = e by omega)]) <;> unfold sp_app <;> (repeat (first | rw [if_pos (by omega)] | rw [if_neg (by omega)])) <;> rfl
                exact ly_iret x d_Model_applies_97 (dz_nbo (by omega)) ⟨by rw [hN9]; rfl, rfl⟩
              · refine dz_iload x.1 6 d_Model_applies_82 rfl ?_
                refine dz_if_ne (tgt := 96) x.1 d_Model_applies_84 (by decide) (by omega) (fun hc84 => by exfalso; omega) (fun hc84 => ?_)
                refine dz_iload x.1 7 d_Model_applies_87 rfl ?_
                refine dz_if_ne (tgt := 96) x.1 d_Model_applies_89 (by decide) (by omega) (fun hc89 => by exfalso; omega) (fun hc89 => ?_)
                refine dz_iconst x.1 d_Model_applies_92 ?_
                refine dz_goto (tgt := 97) x.1 d_Model_applies_93 (by decide) ?_
                have hN9 : sp_app k (decide (p = bg)) (decide (p + mn = e)) = true := by
                  by_cases h9 : False
                  · exact h9.elim
                  · first
                      | (exfalso; omega)
                      | (first | rw [decide_eq_true (show p = bg by omega)] | rw [decide_eq_false (show ¬ p = bg by omega)]) <;> (first | rw [decide_eq_true (show p + mn = e by omega)] | rw [decide_eq_false (show ¬ p + mn = e by omega)]) <;> unfold sp_app <;> (repeat (first | rw [if_pos (by omega)] | rw [if_neg (by omega)])) <;> rfl
                exact ly_iret x d_Model_applies_97 (dz_nbo (by omega)) ⟨by rw [hN9]; rfl, rfl⟩
          · refine dz_iload x.1 6 d_Model_applies_52 rfl ?_
            refine dz_if_eq (tgt := 62) x.1 d_Model_applies_54 (by decide) (by omega) (fun hc54 => ?_) (fun hc54 => by exfalso; omega)
            refine dz_iload_n x.1 1 d_Model_applies_62 rfl rfl ?_
            refine dz_iconst x.1 d_Model_applies_63 ?_
            refine dz_icmp_ne (tgt := 77) x.1 d_Model_applies_64 (by decide) (by omega) (by omega) (fun hc64 => ?_) (fun hc64 => ?_)
            · refine dz_iload_n x.1 1 d_Model_applies_77 rfl rfl ?_
              refine dz_iconst x.1 d_Model_applies_78 ?_
              refine dz_icmp_ne (tgt := 96) x.1 d_Model_applies_79 (by decide) (by omega) (by omega) (fun hc79 => ?_) (fun hc79 => ?_)
              · refine dz_iconst x.1 d_Model_applies_96 ?_
                have hN9 : sp_app k (decide (p = bg)) (decide (p + mn = e)) = false := by
                  by_cases h9 : False
                  · exact h9.elim
                  · first
                      | (exfalso; omega)
                      | (first | rw [decide_eq_true (show p = bg by omega)] | rw [decide_eq_false (show ¬ p = bg by omega)]) <;> (first | rw [decide_eq_true (show p + mn = e by omega)] | rw [decide_eq_false (show ¬ p + mn = e by omega)]) <;> unfold sp_app <;> (repeat (first | rw [if_pos (by omega)] | rw [if_neg (by omega)])) <;> rfl
                exact ly_iret x d_Model_applies_97 (dz_nbo (by omega)) ⟨by rw [hN9]; rfl, rfl⟩
              · refine dz_iload x.1 6 d_Model_applies_82 rfl ?_
                refine dz_if_ne (tgt := 96) x.1 d_Model_applies_84 (by decide) (by omega) (fun hc84 => by exfalso; omega) (fun hc84 => ?_)
                refine dz_iload x.1 7 d_Model_applies_87 rfl ?_
                refine dz_if_ne (tgt := 96) x.1 d_Model_applies_89 (by decide) (by omega) (fun hc89 => by exfalso; omega) (fun hc89 => ?_)
                refine dz_iconst x.1 d_Model_applies_92 ?_
                refine dz_goto (tgt := 97) x.1 d_Model_applies_93 (by decide) ?_
                have hN9 : sp_app k (decide (p = bg)) (decide (p + mn = e)) = true := by
                  by_cases h9 : False
                  · exact h9.elim
                  · first
                      | (exfalso; omega)
                      | (first | rw [decide_eq_true (show p = bg by omega)] | rw [decide_eq_false (show ¬ p = bg by omega)]) <;> (first | rw [decide_eq_true (show p + mn = e by omega)] | rw [decide_eq_false (show ¬ p + mn = e by omega)]) <;> unfold sp_app <;> (repeat (first | rw [if_pos (by omega)] | rw [if_neg (by omega)])) <;> rfl
                exact ly_iret x d_Model_applies_97 (dz_nbo (by omega)) ⟨by rw [hN9]; rfl, rfl⟩
            · refine dz_iload x.1 6 d_Model_applies_67 rfl ?_
              refine dz_if_ne (tgt := 77) x.1 d_Model_applies_69 (by decide) (by omega) (fun hc69 => by exfalso; omega) (fun hc69 => ?_)
              refine dz_iload x.1 7 d_Model_applies_72 rfl ?_
              refine dz_if_ne (tgt := 92) x.1 d_Model_applies_74 (by decide) (by omega) (fun hc74 => by exfalso; omega) (fun hc74 => ?_)
              refine dz_iload_n x.1 1 d_Model_applies_77 rfl rfl ?_
              refine dz_iconst x.1 d_Model_applies_78 ?_
              refine dz_icmp_ne (tgt := 96) x.1 d_Model_applies_79 (by decide) (by omega) (by omega) (fun hc79 => ?_) (fun hc79 => ?_)
              · refine dz_iconst x.1 d_Model_applies_96 ?_
                have hN9 : sp_app k (decide (p = bg)) (decide (p + mn = e)) = false := by
                  by_cases h9 : False
                  · exact h9.elim
                  · first
                      | (exfalso; omega)
                      | (first | rw [decide_eq_true (show p = bg by omega)] | rw [decide_eq_false (show ¬ p = bg by omega)]) <;> (first | rw [decide_eq_true (show p + mn = e by omega)] | rw [decide_eq_false (show ¬ p + mn = e by omega)]) <;> unfold sp_app <;> (repeat (first | rw [if_pos (by omega)] | rw [if_neg (by omega)])) <;> rfl
                exact ly_iret x d_Model_applies_97 (dz_nbo (by omega)) ⟨by rw [hN9]; rfl, rfl⟩
              · refine dz_iload x.1 6 d_Model_applies_82 rfl ?_
                refine dz_if_ne (tgt := 96) x.1 d_Model_applies_84 (by decide) (by omega) (fun hc84 => by exfalso; omega) (fun hc84 => ?_)
                refine dz_iload x.1 7 d_Model_applies_87 rfl ?_
                refine dz_if_ne (tgt := 96) x.1 d_Model_applies_89 (by decide) (by omega) (fun hc89 => by exfalso; omega) (fun hc89 => ?_)
                refine dz_iconst x.1 d_Model_applies_92 ?_
                refine dz_goto (tgt := 97) x.1 d_Model_applies_93 (by decide) ?_
                have hN9 : sp_app k (decide (p = bg)) (decide (p + mn = e)) = true := by
                  by_cases h9 : False
                  · exact h9.elim
                  · first
                      | (exfalso; omega)
                      | (first | rw [decide_eq_true (show p = bg by omega)] | rw [decide_eq_false (show ¬ p = bg by omega)]) <;> (first | rw [decide_eq_true (show p + mn = e by omega)] | rw [decide_eq_false (show ¬ p + mn = e by omega)]) <;> unfold sp_app <;> (repeat (first | rw [if_pos (by omega)] | rw [if_neg (by omega)])) <;> rfl
                exact ly_iret x d_Model_applies_97 (dz_nbo (by omega)) ⟨by rw [hN9]; rfl, rfl⟩
        · refine dz_iload x.1 6 d_Model_applies_37 rfl ?_
          refine dz_if_eq (tgt := 47) x.1 d_Model_applies_39 (by decide) (by omega) (fun hc39 => ?_) (fun hc39 => by exfalso; omega)
          refine dz_iload_n x.1 1 d_Model_applies_47 rfl rfl ?_
          refine dz_iconst x.1 d_Model_applies_48 ?_
          refine dz_icmp_ne (tgt := 62) x.1 d_Model_applies_49 (by decide) (by omega) (by omega) (fun hc49 => ?_) (fun hc49 => ?_)
          · refine dz_iload_n x.1 1 d_Model_applies_62 rfl rfl ?_
            refine dz_iconst x.1 d_Model_applies_63 ?_
            refine dz_icmp_ne (tgt := 77) x.1 d_Model_applies_64 (by decide) (by omega) (by omega) (fun hc64 => ?_) (fun hc64 => ?_)
            · refine dz_iload_n x.1 1 d_Model_applies_77 rfl rfl ?_
              refine dz_iconst x.1 d_Model_applies_78 ?_
              refine dz_icmp_ne (tgt := 96) x.1 d_Model_applies_79 (by decide) (by omega) (by omega) (fun hc79 => ?_) (fun hc79 => ?_)
              · refine dz_iconst x.1 d_Model_applies_96 ?_
                have hN9 : sp_app k (decide (p = bg)) (decide (p + mn = e)) = false := by
                  by_cases h9 : False
                  · exact h9.elim
                  · first
                      | (exfalso; omega)
                      | (first | rw [decide_eq_true (show p = bg by omega)] | rw [decide_eq_false (show ¬ p = bg by omega)]) <;> (first | rw [decide_eq_true (show p + mn = e by omega)] | rw [decide_eq_false (show ¬ p + mn = e by omega)]) <;> unfold sp_app <;> (repeat (first | rw [if_pos (by omega)] | rw [if_neg (by omega)])) <;> rfl
                exact ly_iret x d_Model_applies_97 (dz_nbo (by omega)) ⟨by rw [hN9]; rfl, rfl⟩
              · refine dz_iload x.1 6 d_Model_applies_82 rfl ?_
                refine dz_if_ne (tgt := 96) x.1 d_Model_applies_84 (by decide) (by omega) (fun hc84 => by exfalso; omega) (fun hc84 => ?_)
                refine dz_iload x.1 7 d_Model_applies_87 rfl ?_
                refine dz_if_ne (tgt := 96) x.1 d_Model_applies_89 (by decide) (by omega) (fun hc89 => by exfalso; omega) (fun hc89 => ?_)
                refine dz_iconst x.1 d_Model_applies_92 ?_
                refine dz_goto (tgt := 97) x.1 d_Model_applies_93 (by decide) ?_
                have hN9 : sp_app k (decide (p = bg)) (decide (p + mn = e)) = true := by
                  by_cases h9 : False
                  · exact h9.elim
                  · first
                      | (exfalso; omega)
                      | (first | rw [decide_eq_true (show p = bg by omega)] | rw [decide_eq_false (show ¬ p = bg by omega)]) <;> (first | rw [decide_eq_true (show p + mn = e by omega)] | rw [decide_eq_false (show ¬ p + mn = e by omega)]) <;> unfold sp_app <;> (repeat (first | rw [if_pos (by omega)] | rw [if_neg (by omega)])) <;> rfl
                exact ly_iret x d_Model_applies_97 (dz_nbo (by omega)) ⟨by rw [hN9]; rfl, rfl⟩
            · refine dz_iload x.1 6 d_Model_applies_67 rfl ?_
              refine dz_if_ne (tgt := 77) x.1 d_Model_applies_69 (by decide) (by omega) (fun hc69 => by exfalso; omega) (fun hc69 => ?_)
              refine dz_iload x.1 7 d_Model_applies_72 rfl ?_
              refine dz_if_ne (tgt := 92) x.1 d_Model_applies_74 (by decide) (by omega) (fun hc74 => by exfalso; omega) (fun hc74 => ?_)
              refine dz_iload_n x.1 1 d_Model_applies_77 rfl rfl ?_
              refine dz_iconst x.1 d_Model_applies_78 ?_
              refine dz_icmp_ne (tgt := 96) x.1 d_Model_applies_79 (by decide) (by omega) (by omega) (fun hc79 => ?_) (fun hc79 => ?_)
              · refine dz_iconst x.1 d_Model_applies_96 ?_
                have hN9 : sp_app k (decide (p = bg)) (decide (p + mn = e)) = false := by
                  by_cases h9 : False
                  · exact h9.elim
                  · first
                      | (exfalso; omega)
                      | (first | rw [decide_eq_true (show p = bg by omega)] | rw [decide_eq_false (show ¬ p = bg by omega)]) <;> (first | rw [decide_eq_true (show p + mn = e by omega)] | rw [decide_eq_false (show ¬ p + mn = e by omega)]) <;> unfold sp_app <;> (repeat (first | rw [if_pos (by omega)] | rw [if_neg (by omega)])) <;> rfl
                exact ly_iret x d_Model_applies_97 (dz_nbo (by omega)) ⟨by rw [hN9]; rfl, rfl⟩
              · refine dz_iload x.1 6 d_Model_applies_82 rfl ?_
                refine dz_if_ne (tgt := 96) x.1 d_Model_applies_84 (by decide) (by omega) (fun hc84 => by exfalso; omega) (fun hc84 => ?_)
                refine dz_iload x.1 7 d_Model_applies_87 rfl ?_
                refine dz_if_ne (tgt := 96) x.1 d_Model_applies_89 (by decide) (by omega) (fun hc89 => by exfalso; omega) (fun hc89 => ?_)
                refine dz_iconst x.1 d_Model_applies_92 ?_
                refine dz_goto (tgt := 97) x.1 d_Model_applies_93 (by decide) ?_
                have hN9 : sp_app k (decide (p = bg)) (decide (p + mn = e)) = true := by
                  by_cases h9 : False
                  · exact h9.elim
                  · first
                      | (exfalso; omega)
                      | (first | rw [decide_eq_true (show p = bg by omega)] | rw [decide_eq_false (show ¬ p = bg by omega)]) <;> (first | rw [decide_eq_true (show p + mn = e by omega)] | rw [decide_eq_false (show ¬ p + mn = e by omega)]) <;> unfold sp_app <;> (repeat (first | rw [if_pos (by omega)] | rw [if_neg (by omega)])) <;> rfl
                exact ly_iret x d_Model_applies_97 (dz_nbo (by omega)) ⟨by rw [hN9]; rfl, rfl⟩
          · refine dz_iload x.1 6 d_Model_applies_52 rfl ?_
            refine dz_if_eq (tgt := 62) x.1 d_Model_applies_54 (by decide) (by omega) (fun hc54 => ?_) (fun hc54 => by exfalso; omega)
            refine dz_iload_n x.1 1 d_Model_applies_62 rfl rfl ?_
            refine dz_iconst x.1 d_Model_applies_63 ?_
            refine dz_icmp_ne (tgt := 77) x.1 d_Model_applies_64 (by decide) (by omega) (by omega) (fun hc64 => ?_) (fun hc64 => ?_)
            · refine dz_iload_n x.1 1 d_Model_applies_77 rfl rfl ?_
              refine dz_iconst x.1 d_Model_applies_78 ?_
              refine dz_icmp_ne (tgt := 96) x.1 d_Model_applies_79 (by decide) (by omega) (by omega) (fun hc79 => ?_) (fun hc79 => ?_)
              · refine dz_iconst x.1 d_Model_applies_96 ?_
                have hN9 : sp_app k (decide (p = bg)) (decide (p + mn = e)) = false := by
                  by_cases h9 : False
                  · exact h9.elim
                  · first
                      | (exfalso; omega)
                      | (first | rw [decide_eq_true (show p = bg by omega)] | rw [decide_eq_false (show ¬ p = bg by omega)]) <;> (first | rw [decide_eq_true (show p + mn = e by omega)] | rw [decide_eq_false (show ¬ p + mn = e by omega)]) <;> unfold sp_app <;> (repeat (first | rw [if_pos (by omega)] | rw [if_neg (by omega)])) <;> rfl
                exact ly_iret x d_Model_applies_97 (dz_nbo (by omega)) ⟨by rw [hN9]; rfl, rfl⟩
              · refine dz_iload x.1 6 d_Model_applies_82 rfl ?_
                refine dz_if_ne (tgt := 96) x.1 d_Model_applies_84 (by decide) (by omega) (fun hc84 => by exfalso; omega) (fun hc84 => ?_)
                refine dz_iload x.1 7 d_Model_applies_87 rfl ?_
                refine dz_if_ne (tgt := 96) x.1 d_Model_applies_89 (by decide) (by omega) (fun hc89 => by exfalso; omega) (fun hc89 => ?_)
                refine dz_iconst x.1 d_Model_applies_92 ?_
                refine dz_goto (tgt := 97) x.1 d_Model_applies_93 (by decide) ?_
                have hN9 : sp_app k (decide (p = bg)) (decide (p + mn = e)) = true := by
                  by_cases h9 : False
                  · exact h9.elim
                  · first
                      | (exfalso; omega)
                      | (first | rw [decide_eq_true (show p = bg by omega)] | rw [decide_eq_false (show ¬ p = bg by omega)]) <;> (first | rw [decide_eq_true (show p + mn = e by omega)] | rw [decide_eq_false (show ¬ p + mn = e by omega)]) <;> unfold sp_app <;> (repeat (first | rw [if_pos (by omega)] | rw [if_neg (by omega)])) <;> rfl
                exact ly_iret x d_Model_applies_97 (dz_nbo (by omega)) ⟨by rw [hN9]; rfl, rfl⟩
            · refine dz_iload x.1 6 d_Model_applies_67 rfl ?_
              refine dz_if_ne (tgt := 77) x.1 d_Model_applies_69 (by decide) (by omega) (fun hc69 => by exfalso; omega) (fun hc69 => ?_)
              refine dz_iload x.1 7 d_Model_applies_72 rfl ?_
              refine dz_if_ne (tgt := 92) x.1 d_Model_applies_74 (by decide) (by omega) (fun hc74 => by exfalso; omega) (fun hc74 => ?_)
              refine dz_iload_n x.1 1 d_Model_applies_77 rfl rfl ?_
              refine dz_iconst x.1 d_Model_applies_78 ?_
              refine dz_icmp_ne (tgt := 96) x.1 d_Model_applies_79 (by decide) (by omega) (by omega) (fun hc79 => ?_) (fun hc79 => ?_)
              · refine dz_iconst x.1 d_Model_applies_96 ?_
                have hN9 : sp_app k (decide (p = bg)) (decide (p + mn = e)) = false := by
                  by_cases h9 : False
                  · exact h9.elim
                  · first
                      | (exfalso; omega)
                      | (first | rw [decide_eq_true (show p = bg by omega)] | rw [decide_eq_false (show ¬ p = bg by omega)]) <;> (first | rw [decide_eq_true (show p + mn = e by omega)] | rw [decide_eq_false (show ¬ p + mn = e by omega)]) <;> unfold sp_app <;> (repeat (first | rw [if_pos (by omega)] | rw [if_neg (by omega)])) <;> rfl
                exact ly_iret x d_Model_applies_97 (dz_nbo (by omega)) ⟨by rw [hN9]; rfl, rfl⟩
              · refine dz_iload x.1 6 d_Model_applies_82 rfl ?_
                refine dz_if_ne (tgt := 96) x.1 d_Model_applies_84 (by decide) (by omega) (fun hc84 => by exfalso; omega) (fun hc84 => ?_)
                refine dz_iload x.1 7 d_Model_applies_87 rfl ?_
                refine dz_if_ne (tgt := 96) x.1 d_Model_applies_89 (by decide) (by omega) (fun hc89 => by exfalso; omega) (fun hc89 => ?_)
                refine dz_iconst x.1 d_Model_applies_92 ?_
                refine dz_goto (tgt := 97) x.1 d_Model_applies_93 (by decide) ?_
                have hN9 : sp_app k (decide (p = bg)) (decide (p + mn = e)) = true := by
                  by_cases h9 : False
                  · exact h9.elim
                  · first
                      | (exfalso; omega)
                      | (first | rw [decide_eq_true (show p = bg by omega)] | rw [decide_eq_false (show ¬ p = bg by omega)]) <;> (first | rw [decide_eq_true (show p + mn = e by omega)] | rw [decide_eq_false (show ¬ p + mn = e by omega)]) <;> unfold sp_app <;> (repeat (first | rw [if_pos (by omega)] | rw [if_neg (by omega)])) <;> rfl
                exact ly_iret x d_Model_applies_97 (dz_nbo (by omega)) ⟨by rw [hN9]; rfl, rfl⟩
    · refine dz_iconst x.1 d_Model_applies_21 ?_
      refine dz_goto (tgt := 26) x.1 d_Model_applies_22 (by decide) ?_
      refine dz_istore (ls' := [(0, .ref (b + 130)), (1, .int (dz_i k)), (2, .int (dz_i p)), (3, .int (dz_i mn)), (4, .int (dz_i bg)), (5, .int (dz_i e)), (6, .int (dz_i 0)), (7, .int (dz_i 1))]) x.1 d_Model_applies_26 hN (by decide) rfl ?_
      refine dz_iload_n x.1 1 d_Model_applies_28 rfl rfl ?_
      refine dz_iconst x.1 d_Model_applies_29 ?_
      refine dz_icmp_eq (tgt := 92) x.1 d_Model_applies_30 (by decide) (by omega) (by omega) (fun hc30 => ?_) (fun hc30 => ?_)
      · refine dz_iconst x.1 d_Model_applies_92 ?_
        refine dz_goto (tgt := 97) x.1 d_Model_applies_93 (by decide) ?_
        have hN9 : sp_app k (decide (p = bg)) (decide (p + mn = e)) = true := by
          by_cases h9 : False
          · exact h9.elim
          · first
              | (exfalso; omega)
              | (first | rw [decide_eq_true (show p = bg by omega)] | rw [decide_eq_false (show ¬ p = bg by omega)]) <;> (first | rw [decide_eq_true (show p + mn = e by omega)] | rw [decide_eq_false (show ¬ p + mn = e by omega)]) <;> unfold sp_app <;> (repeat (first | rw [if_pos (by omega)] | rw [if_neg (by omega)])) <;> rfl
        exact ly_iret x d_Model_applies_97 (dz_nbo (by omega)) ⟨by rw [hN9]; rfl, rfl⟩
      · refine dz_iload_n x.1 1 d_Model_applies_33 rfl rfl ?_
        refine dz_if_ne (tgt := 47) x.1 d_Model_applies_34 (by decide) (by omega) (fun hc34 => ?_) (fun hc34 => ?_)
        · refine dz_iload_n x.1 1 d_Model_applies_47 rfl rfl ?_
          refine dz_iconst x.1 d_Model_applies_48 ?_
          refine dz_icmp_ne (tgt := 62) x.1 d_Model_applies_49 (by decide) (by omega) (by omega) (fun hc49 => ?_) (fun hc49 => ?_)
          · refine dz_iload_n x.1 1 d_Model_applies_62 rfl rfl ?_
            refine dz_iconst x.1 d_Model_applies_63 ?_
            refine dz_icmp_ne (tgt := 77) x.1 d_Model_applies_64 (by decide) (by omega) (by omega) (fun hc64 => ?_) (fun hc64 => ?_)
            · refine dz_iload_n x.1 1 d_Model_applies_77 rfl rfl ?_
              refine dz_iconst x.1 d_Model_applies_78 ?_
              refine dz_icmp_ne (tgt := 96) x.1 d_Model_applies_79 (by decide) (by omega) (by omega) (fun hc79 => ?_) (fun hc79 => ?_)
              · refine dz_iconst x.1 d_Model_applies_96 ?_
                have hN9 : sp_app k (decide (p = bg)) (decide (p + mn = e)) = false := by
                  by_cases h9 : False
                  · exact h9.elim
                  · first
                      | (exfalso; omega)
                      | (first | rw [decide_eq_true (show p = bg by omega)] | rw [decide_eq_false (show ¬ p = bg by omega)]) <;> (first | rw [decide_eq_true (show p + mn = e by omega)] | rw [decide_eq_false (show ¬ p + mn = e by omega)]) <;> unfold sp_app <;> (repeat (first | rw [if_pos (by omega)] | rw [if_neg (by omega)])) <;> rfl
                exact ly_iret x d_Model_applies_97 (dz_nbo (by omega)) ⟨by rw [hN9]; rfl, rfl⟩
              · refine dz_iload x.1 6 d_Model_applies_82 rfl ?_
                refine dz_if_ne (tgt := 96) x.1 d_Model_applies_84 (by decide) (by omega) (fun hc84 => by exfalso; omega) (fun hc84 => ?_)
                refine dz_iload x.1 7 d_Model_applies_87 rfl ?_
                refine dz_if_ne (tgt := 96) x.1 d_Model_applies_89 (by decide) (by omega) (fun hc89 => ?_) (fun hc89 => by exfalso; omega)
                refine dz_iconst x.1 d_Model_applies_96 ?_
                have hN9 : sp_app k (decide (p = bg)) (decide (p + mn = e)) = false := by
                  by_cases h9 : False
                  · exact h9.elim
                  · first
                      | (exfalso; omega)
                      | (first | rw [decide_eq_true (show p = bg by omega)] | rw [decide_eq_false (show ¬ p = bg by omega)]) <;> (first | rw [decide_eq_true (show p + mn = e by omega)] | rw [decide_eq_false (show ¬ p + mn = e by omega)]) <;> unfold sp_app <;> (repeat (first | rw [if_pos (by omega)] | rw [if_neg (by omega)])) <;> rfl
                exact ly_iret x d_Model_applies_97 (dz_nbo (by omega)) ⟨by rw [hN9]; rfl, rfl⟩
            · refine dz_iload x.1 6 d_Model_applies_67 rfl ?_
              refine dz_if_ne (tgt := 77) x.1 d_Model_applies_69 (by decide) (by omega) (fun hc69 => by exfalso; omega) (fun hc69 => ?_)
              refine dz_iload x.1 7 d_Model_applies_72 rfl ?_
              refine dz_if_ne (tgt := 92) x.1 d_Model_applies_74 (by decide) (by omega) (fun hc74 => ?_) (fun hc74 => by exfalso; omega)
              refine dz_iconst x.1 d_Model_applies_92 ?_
              refine dz_goto (tgt := 97) x.1 d_Model_applies_93 (by decide) ?_
              have hN9 : sp_app k (decide (p = bg)) (decide (p + mn = e)) = true := by
                by_cases h9 : False
                · exact h9.elim
                · first
                    | (exfalso; omega)
                    | (first | rw [decide_eq_true (show p = bg by omega)] | rw [decide_eq_false (show ¬ p = bg by omega)]) <;> (first | rw [decide_eq_true (show p + mn = e by omega)] | rw [decide_eq_false (show ¬ p + mn = e by omega)]) <;> unfold sp_app <;> (repeat (first | rw [if_pos (by omega)] | rw [if_neg (by omega)])) <;> rfl
              exact ly_iret x d_Model_applies_97 (dz_nbo (by omega)) ⟨by rw [hN9]; rfl, rfl⟩
          · refine dz_iload x.1 6 d_Model_applies_52 rfl ?_
            refine dz_if_eq (tgt := 62) x.1 d_Model_applies_54 (by decide) (by omega) (fun hc54 => ?_) (fun hc54 => by exfalso; omega)
            refine dz_iload_n x.1 1 d_Model_applies_62 rfl rfl ?_
            refine dz_iconst x.1 d_Model_applies_63 ?_
            refine dz_icmp_ne (tgt := 77) x.1 d_Model_applies_64 (by decide) (by omega) (by omega) (fun hc64 => ?_) (fun hc64 => ?_)
            · refine dz_iload_n x.1 1 d_Model_applies_77 rfl rfl ?_
              refine dz_iconst x.1 d_Model_applies_78 ?_
              refine dz_icmp_ne (tgt := 96) x.1 d_Model_applies_79 (by decide) (by omega) (by omega) (fun hc79 => ?_) (fun hc79 => ?_)
              · refine dz_iconst x.1 d_Model_applies_96 ?_
                have hN9 : sp_app k (decide (p = bg)) (decide (p + mn = e)) = false := by
                  by_cases h9 : False
                  · exact h9.elim
                  · first
                      | (exfalso; omega)
                      | (first | rw [decide_eq_true (show p = bg by omega)] | rw [decide_eq_false (show ¬ p = bg by omega)]) <;> (first | rw [decide_eq_true (show p + mn = e by omega)] | rw [decide_eq_false (show ¬ p + mn = e by omega)]) <;> unfold sp_app <;> (repeat (first | rw [if_pos (by omega)] | rw [if_neg (by omega)])) <;> rfl
                exact ly_iret x d_Model_applies_97 (dz_nbo (by omega)) ⟨by rw [hN9]; rfl, rfl⟩
              · refine dz_iload x.1 6 d_Model_applies_82 rfl ?_
                refine dz_if_ne (tgt := 96) x.1 d_Model_applies_84 (by decide) (by omega) (fun hc84 => by exfalso; omega) (fun hc84 => ?_)
                refine dz_iload x.1 7 d_Model_applies_87 rfl ?_
                refine dz_if_ne (tgt := 96) x.1 d_Model_applies_89 (by decide) (by omega) (fun hc89 => ?_) (fun hc89 => by exfalso; omega)
                refine dz_iconst x.1 d_Model_applies_96 ?_
                have hN9 : sp_app k (decide (p = bg)) (decide (p + mn = e)) = false := by
                  by_cases h9 : False
                  · exact h9.elim
                  · first
                      | (exfalso; omega)
                      | (first | rw [decide_eq_true (show p = bg by omega)] | rw [decide_eq_false (show ¬ p = bg by omega)]) <;> (first | rw [decide_eq_true (show p + mn = e by omega)] | rw [decide_eq_false (show ¬ p + mn = e by omega)]) <;> unfold sp_app <;> (repeat (first | rw [if_pos (by omega)] | rw [if_neg (by omega)])) <;> rfl
                exact ly_iret x d_Model_applies_97 (dz_nbo (by omega)) ⟨by rw [hN9]; rfl, rfl⟩
            · refine dz_iload x.1 6 d_Model_applies_67 rfl ?_
              refine dz_if_ne (tgt := 77) x.1 d_Model_applies_69 (by decide) (by omega) (fun hc69 => by exfalso; omega) (fun hc69 => ?_)
              refine dz_iload x.1 7 d_Model_applies_72 rfl ?_
              refine dz_if_ne (tgt := 92) x.1 d_Model_applies_74 (by decide) (by omega) (fun hc74 => ?_) (fun hc74 => by exfalso; omega)
              refine dz_iconst x.1 d_Model_applies_92 ?_
              refine dz_goto (tgt := 97) x.1 d_Model_applies_93 (by decide) ?_
              have hN9 : sp_app k (decide (p = bg)) (decide (p + mn = e)) = true := by
                by_cases h9 : False
                · exact h9.elim
                · first
                    | (exfalso; omega)
                    | (first | rw [decide_eq_true (show p = bg by omega)] | rw [decide_eq_false (show ¬ p = bg by omega)]) <;> (first | rw [decide_eq_true (show p + mn = e by omega)] | rw [decide_eq_false (show ¬ p + mn = e by omega)]) <;> unfold sp_app <;> (repeat (first | rw [if_pos (by omega)] | rw [if_neg (by omega)])) <;> rfl
              exact ly_iret x d_Model_applies_97 (dz_nbo (by omega)) ⟨by rw [hN9]; rfl, rfl⟩
        · refine dz_iload x.1 6 d_Model_applies_37 rfl ?_
          refine dz_if_eq (tgt := 47) x.1 d_Model_applies_39 (by decide) (by omega) (fun hc39 => ?_) (fun hc39 => by exfalso; omega)
          refine dz_iload_n x.1 1 d_Model_applies_47 rfl rfl ?_
          refine dz_iconst x.1 d_Model_applies_48 ?_
          refine dz_icmp_ne (tgt := 62) x.1 d_Model_applies_49 (by decide) (by omega) (by omega) (fun hc49 => ?_) (fun hc49 => ?_)
          · refine dz_iload_n x.1 1 d_Model_applies_62 rfl rfl ?_
            refine dz_iconst x.1 d_Model_applies_63 ?_
            refine dz_icmp_ne (tgt := 77) x.1 d_Model_applies_64 (by decide) (by omega) (by omega) (fun hc64 => ?_) (fun hc64 => ?_)
            · refine dz_iload_n x.1 1 d_Model_applies_77 rfl rfl ?_
              refine dz_iconst x.1 d_Model_applies_78 ?_
              refine dz_icmp_ne (tgt := 96) x.1 d_Model_applies_79 (by decide) (by omega) (by omega) (fun hc79 => ?_) (fun hc79 => ?_)
              · refine dz_iconst x.1 d_Model_applies_96 ?_
                have hN9 : sp_app k (decide (p = bg)) (decide (p + mn = e)) = false := by
                  by_cases h9 : False
                  · exact h9.elim
                  · first
                      | (exfalso; omega)
                      | (first | rw [decide_eq_true (show p = bg by omega)] | rw [decide_eq_false (show ¬ p = bg by omega)]) <;> (first | rw [decide_eq_true (show p + mn = e by omega)] | rw [decide_eq_false (show ¬ p + mn = e by omega)]) <;> unfold sp_app <;> (repeat (first | rw [if_pos (by omega)] | rw [if_neg (by omega)])) <;> rfl
                exact ly_iret x d_Model_applies_97 (dz_nbo (by omega)) ⟨by rw [hN9]; rfl, rfl⟩
              · refine dz_iload x.1 6 d_Model_applies_82 rfl ?_
                refine dz_if_ne (tgt := 96) x.1 d_Model_applies_84 (by decide) (by omega) (fun hc84 => by exfalso; omega) (fun hc84 => ?_)
                refine dz_iload x.1 7 d_Model_applies_87 rfl ?_
                refine dz_if_ne (tgt := 96) x.1 d_Model_applies_89 (by decide) (by omega) (fun hc89 => ?_) (fun hc89 => by exfalso; omega)
                refine dz_iconst x.1 d_Model_applies_96 ?_
                have hN9 : sp_app k (decide (p = bg)) (decide (p + mn = e)) = false := by
                  by_cases h9 : False
                  · exact h9.elim
                  · first
                      | (exfalso; omega)
                      | (first | rw [decide_eq_true (show p = bg by omega)] | rw [decide_eq_false (show ¬ p = bg by omega)]) <;> (first | rw [decide_eq_true (show p + mn = e by omega)] | rw [decide_eq_false (show ¬ p + mn = e by omega)]) <;> unfold sp_app <;> (repeat (first | rw [if_pos (by omega)] | rw [if_neg (by omega)])) <;> rfl
                exact ly_iret x d_Model_applies_97 (dz_nbo (by omega)) ⟨by rw [hN9]; rfl, rfl⟩
            · refine dz_iload x.1 6 d_Model_applies_67 rfl ?_
              refine dz_if_ne (tgt := 77) x.1 d_Model_applies_69 (by decide) (by omega) (fun hc69 => by exfalso; omega) (fun hc69 => ?_)
              refine dz_iload x.1 7 d_Model_applies_72 rfl ?_
              refine dz_if_ne (tgt := 92) x.1 d_Model_applies_74 (by decide) (by omega) (fun hc74 => ?_) (fun hc74 => by exfalso; omega)
              refine dz_iconst x.1 d_Model_applies_92 ?_
              refine dz_goto (tgt := 97) x.1 d_Model_applies_93 (by decide) ?_
              have hN9 : sp_app k (decide (p = bg)) (decide (p + mn = e)) = true := by
                by_cases h9 : False
                · exact h9.elim
                · first
                    | (exfalso; omega)
                    | (first | rw [decide_eq_true (show p = bg by omega)] | rw [decide_eq_false (show ¬ p = bg by omega)]) <;> (first | rw [decide_eq_true (show p + mn = e by omega)] | rw [decide_eq_false (show ¬ p + mn = e by omega)]) <;> unfold sp_app <;> (repeat (first | rw [if_pos (by omega)] | rw [if_neg (by omega)])) <;> rfl
              exact ly_iret x d_Model_applies_97 (dz_nbo (by omega)) ⟨by rw [hN9]; rfl, rfl⟩
          · refine dz_iload x.1 6 d_Model_applies_52 rfl ?_
            refine dz_if_eq (tgt := 62) x.1 d_Model_applies_54 (by decide) (by omega) (fun hc54 => ?_) (fun hc54 => by exfalso; omega)
            refine dz_iload_n x.1 1 d_Model_applies_62 rfl rfl ?_
            refine dz_iconst x.1 d_Model_applies_63 ?_
            refine dz_icmp_ne (tgt := 77) x.1 d_Model_applies_64 (by decide) (by omega) (by omega) (fun hc64 => ?_) (fun hc64 => ?_)
            · refine dz_iload_n x.1 1 d_Model_applies_77 rfl rfl ?_
              refine dz_iconst x.1 d_Model_applies_78 ?_
              refine dz_icmp_ne (tgt := 96) x.1 d_Model_applies_79 (by decide) (by omega) (by omega) (fun hc79 => ?_) (fun hc79 => ?_)
              · refine dz_iconst x.1 d_Model_applies_96 ?_
                have hN9 : sp_app k (decide (p = bg)) (decide (p + mn = e)) = false := by
                  by_cases h9 : False
                  · exact h9.elim
                  · first
                      | (exfalso; omega)
                      | (first | rw [decide_eq_true (show p = bg by omega)] | rw [decide_eq_false (show ¬ p = bg by omega)]) <;> (first | rw [decide_eq_true (show p + mn = e by omega)] | rw [decide_eq_false (show ¬ p + mn = e by omega)]) <;> unfold sp_app <;> (repeat (first | rw [if_pos (by omega)] | rw [if_neg (by omega)])) <;> rfl
                exact ly_iret x d_Model_applies_97 (dz_nbo (by omega)) ⟨by rw [hN9]; rfl, rfl⟩
              · refine dz_iload x.1 6 d_Model_applies_82 rfl ?_
                refine dz_if_ne (tgt := 96) x.1 d_Model_applies_84 (by decide) (by omega) (fun hc84 => by exfalso; omega) (fun hc84 => ?_)
                refine dz_iload x.1 7 d_Model_applies_87 rfl ?_
                refine dz_if_ne (tgt := 96) x.1 d_Model_applies_89 (by decide) (by omega) (fun hc89 => ?_) (fun hc89 => by exfalso; omega)
                refine dz_iconst x.1 d_Model_applies_96 ?_
                have hN9 : sp_app k (decide (p = bg)) (decide (p + mn = e)) = false := by
                  by_cases h9 : False
                  · exact h9.elim
                  · first
                      | (exfalso; omega)
                      | (first | rw [decide_eq_true (show p = bg by omega)] | rw [decide_eq_false (show ¬ p = bg by omega)]) <;> (first | rw [decide_eq_true (show p + mn = e by omega)] | rw [decide_eq_false (show ¬ p + mn = e by omega)]) <;> unfold sp_app <;> (repeat (first | rw [if_pos (by omega)] | rw [if_neg (by omega)])) <;> rfl
                exact ly_iret x d_Model_applies_97 (dz_nbo (by omega)) ⟨by rw [hN9]; rfl, rfl⟩
            · refine dz_iload x.1 6 d_Model_applies_67 rfl ?_
              refine dz_if_ne (tgt := 77) x.1 d_Model_applies_69 (by decide) (by omega) (fun hc69 => by exfalso; omega) (fun hc69 => ?_)
              refine dz_iload x.1 7 d_Model_applies_72 rfl ?_
              refine dz_if_ne (tgt := 92) x.1 d_Model_applies_74 (by decide) (by omega) (fun hc74 => ?_) (fun hc74 => by exfalso; omega)
              refine dz_iconst x.1 d_Model_applies_92 ?_
              refine dz_goto (tgt := 97) x.1 d_Model_applies_93 (by decide) ?_
              have hN9 : sp_app k (decide (p = bg)) (decide (p + mn = e)) = true := by
                by_cases h9 : False
                · exact h9.elim
                · first
                    | (exfalso; omega)
                    | (first | rw [decide_eq_true (show p = bg by omega)] | rw [decide_eq_false (show ¬ p = bg by omega)]) <;> (first | rw [decide_eq_true (show p + mn = e by omega)] | rw [decide_eq_false (show ¬ p + mn = e by omega)]) <;> unfold sp_app <;> (repeat (first | rw [if_pos (by omega)] | rw [if_neg (by omega)])) <;> rfl
              exact ly_iret x d_Model_applies_97 (dz_nbo (by omega)) ⟨by rw [hN9]; rfl, rfl⟩
  · refine dz_iconst x.1 d_Model_applies_6 ?_
    refine dz_goto (tgt := 11) x.1 d_Model_applies_7 (by decide) ?_
    refine dz_istore (ls' := [(0, .ref (b + 130)), (1, .int (dz_i k)), (2, .int (dz_i p)), (3, .int (dz_i mn)), (4, .int (dz_i bg)), (5, .int (dz_i e)), (6, .int (dz_i 1))]) x.1 d_Model_applies_11 hN (by decide) rfl ?_
    refine dz_iload_n x.1 2 d_Model_applies_13 rfl rfl ?_
    refine dz_iload_n x.1 3 d_Model_applies_14 rfl rfl ?_
    refine dz_iadd (z := p + mn) x.1 d_Model_applies_15 (by omega) ?_
    refine dz_iload x.1 5 d_Model_applies_16 rfl ?_
    refine dz_icmp_ge (tgt := 25) x.1 d_Model_applies_18 (by decide) (by omega) (by omega) (fun hc18 => ?_) (fun hc18 => ?_)
    · refine dz_iconst x.1 d_Model_applies_25 ?_
      refine dz_istore (ls' := [(0, .ref (b + 130)), (1, .int (dz_i k)), (2, .int (dz_i p)), (3, .int (dz_i mn)), (4, .int (dz_i bg)), (5, .int (dz_i e)), (6, .int (dz_i 1)), (7, .int (dz_i 0))]) x.1 d_Model_applies_26 hN (by decide) rfl ?_
      refine dz_iload_n x.1 1 d_Model_applies_28 rfl rfl ?_
      refine dz_iconst x.1 d_Model_applies_29 ?_
      refine dz_icmp_eq (tgt := 92) x.1 d_Model_applies_30 (by decide) (by omega) (by omega) (fun hc30 => ?_) (fun hc30 => ?_)
      · refine dz_iconst x.1 d_Model_applies_92 ?_
        refine dz_goto (tgt := 97) x.1 d_Model_applies_93 (by decide) ?_
        have hN9 : sp_app k (decide (p = bg)) (decide (p + mn = e)) = true := by
          by_cases h9 : False
          · exact h9.elim
          · first
              | (exfalso; omega)
              | (first | rw [decide_eq_true (show p = bg by omega)] | rw [decide_eq_false (show ¬ p = bg by omega)]) <;> (first | rw [decide_eq_true (show p + mn = e by omega)] | rw [decide_eq_false (show ¬ p + mn = e by omega)]) <;> unfold sp_app <;> (repeat (first | rw [if_pos (by omega)] | rw [if_neg (by omega)])) <;> rfl
        exact ly_iret x d_Model_applies_97 (dz_nbo (by omega)) ⟨by rw [hN9]; rfl, rfl⟩
      · refine dz_iload_n x.1 1 d_Model_applies_33 rfl rfl ?_
        refine dz_if_ne (tgt := 47) x.1 d_Model_applies_34 (by decide) (by omega) (fun hc34 => ?_) (fun hc34 => ?_)
        · refine dz_iload_n x.1 1 d_Model_applies_47 rfl rfl ?_
          refine dz_iconst x.1 d_Model_applies_48 ?_
          refine dz_icmp_ne (tgt := 62) x.1 d_Model_applies_49 (by decide) (by omega) (by omega) (fun hc49 => ?_) (fun hc49 => ?_)
          · refine dz_iload_n x.1 1 d_Model_applies_62 rfl rfl ?_
            refine dz_iconst x.1 d_Model_applies_63 ?_
            refine dz_icmp_ne (tgt := 77) x.1 d_Model_applies_64 (by decide) (by omega) (by omega) (fun hc64 => ?_) (fun hc64 => ?_)
            · refine dz_iload_n x.1 1 d_Model_applies_77 rfl rfl ?_
              refine dz_iconst x.1 d_Model_applies_78 ?_
              refine dz_icmp_ne (tgt := 96) x.1 d_Model_applies_79 (by decide) (by omega) (by omega) (fun hc79 => ?_) (fun hc79 => ?_)
              · refine dz_iconst x.1 d_Model_applies_96 ?_
                have hN9 : sp_app k (decide (p = bg)) (decide (p + mn = e)) = false := by
                  by_cases h9 : False
                  · exact h9.elim
                  · first
                      | (exfalso; omega)
                      | (first | rw [decide_eq_true (show p = bg by omega)] | rw [decide_eq_false (show ¬ p = bg by omega)]) <;> (first | rw [decide_eq_true (show p + mn = e by omega)] | rw [decide_eq_false (show ¬ p + mn = e by omega)]) <;> unfold sp_app <;> (repeat (first | rw [if_pos (by omega)] | rw [if_neg (by omega)])) <;> rfl
                exact ly_iret x d_Model_applies_97 (dz_nbo (by omega)) ⟨by rw [hN9]; rfl, rfl⟩
              · refine dz_iload x.1 6 d_Model_applies_82 rfl ?_
                refine dz_if_ne (tgt := 96) x.1 d_Model_applies_84 (by decide) (by omega) (fun hc84 => ?_) (fun hc84 => by exfalso; omega)
                refine dz_iconst x.1 d_Model_applies_96 ?_
                have hN9 : sp_app k (decide (p = bg)) (decide (p + mn = e)) = false := by
                  by_cases h9 : False
                  · exact h9.elim
                  · first
                      | (exfalso; omega)
                      | (first | rw [decide_eq_true (show p = bg by omega)] | rw [decide_eq_false (show ¬ p = bg by omega)]) <;> (first | rw [decide_eq_true (show p + mn = e by omega)] | rw [decide_eq_false (show ¬ p + mn = e by omega)]) <;> unfold sp_app <;> (repeat (first | rw [if_pos (by omega)] | rw [if_neg (by omega)])) <;> rfl
                exact ly_iret x d_Model_applies_97 (dz_nbo (by omega)) ⟨by rw [hN9]; rfl, rfl⟩
            · refine dz_iload x.1 6 d_Model_applies_67 rfl ?_
              refine dz_if_ne (tgt := 77) x.1 d_Model_applies_69 (by decide) (by omega) (fun hc69 => ?_) (fun hc69 => by exfalso; omega)
              refine dz_iload_n x.1 1 d_Model_applies_77 rfl rfl ?_
              refine dz_iconst x.1 d_Model_applies_78 ?_
              refine dz_icmp_ne (tgt := 96) x.1 d_Model_applies_79 (by decide) (by omega) (by omega) (fun hc79 => ?_) (fun hc79 => ?_)
              · refine dz_iconst x.1 d_Model_applies_96 ?_
                have hN9 : sp_app k (decide (p = bg)) (decide (p + mn = e)) = false := by
                  by_cases h9 : False
                  · exact h9.elim
                  · first
                      | (exfalso; omega)
                      | (first | rw [decide_eq_true (show p = bg by omega)] | rw [decide_eq_false (show ¬ p = bg by omega)]) <;> (first | rw [decide_eq_true (show p + mn = e by omega)] | rw [decide_eq_false (show ¬ p + mn = e by omega)]) <;> unfold sp_app <;> (repeat (first | rw [if_pos (by omega)] | rw [if_neg (by omega)])) <;> rfl
                exact ly_iret x d_Model_applies_97 (dz_nbo (by omega)) ⟨by rw [hN9]; rfl, rfl⟩
              · refine dz_iload x.1 6 d_Model_applies_82 rfl ?_
                refine dz_if_ne (tgt := 96) x.1 d_Model_applies_84 (by decide) (by omega) (fun hc84 => ?_) (fun hc84 => by exfalso; omega)
                refine dz_iconst x.1 d_Model_applies_96 ?_
                have hN9 : sp_app k (decide (p = bg)) (decide (p + mn = e)) = false := by
                  by_cases h9 : False
                  · exact h9.elim
                  · first
                      | (exfalso; omega)
                      | (first | rw [decide_eq_true (show p = bg by omega)] | rw [decide_eq_false (show ¬ p = bg by omega)]) <;> (first | rw [decide_eq_true (show p + mn = e by omega)] | rw [decide_eq_false (show ¬ p + mn = e by omega)]) <;> unfold sp_app <;> (repeat (first | rw [if_pos (by omega)] | rw [if_neg (by omega)])) <;> rfl
                exact ly_iret x d_Model_applies_97 (dz_nbo (by omega)) ⟨by rw [hN9]; rfl, rfl⟩
          · refine dz_iload x.1 6 d_Model_applies_52 rfl ?_
            refine dz_if_eq (tgt := 62) x.1 d_Model_applies_54 (by decide) (by omega) (fun hc54 => by exfalso; omega) (fun hc54 => ?_)
            refine dz_iload x.1 7 d_Model_applies_57 rfl ?_
            refine dz_if_ne (tgt := 92) x.1 d_Model_applies_59 (by decide) (by omega) (fun hc59 => by exfalso; omega) (fun hc59 => ?_)
            refine dz_iload_n x.1 1 d_Model_applies_62 rfl rfl ?_
            refine dz_iconst x.1 d_Model_applies_63 ?_
            refine dz_icmp_ne (tgt := 77) x.1 d_Model_applies_64 (by decide) (by omega) (by omega) (fun hc64 => ?_) (fun hc64 => ?_)
            · refine dz_iload_n x.1 1 d_Model_applies_77 rfl rfl ?_
              refine dz_iconst x.1 d_Model_applies_78 ?_
              refine dz_icmp_ne (tgt := 96) x.1 d_Model_applies_79 (by decide) (by omega) (by omega) (fun hc79 => ?_) (fun hc79 => ?_)
              · refine dz_iconst x.1 d_Model_applies_96 ?_
                have hN9 : sp_app k (decide (p = bg)) (decide (p + mn = e)) = false := by
                  by_cases h9 : False
                  · exact h9.elim
                  · first
                      | (exfalso; omega)
                      | (first | rw [decide_eq_true (show p = bg by omega)] | rw [decide_eq_false (show ¬ p = bg by omega)]) <;> (first | rw [decide_eq_true (show p + mn = e by omega)] | rw [decide_eq_false (show ¬ p + mn = e by omega)]) <;> unfold sp_app <;> (repeat (first | rw [if_pos (by omega)] | rw [if_neg (by omega)])) <;> rfl
                exact ly_iret x d_Model_applies_97 (dz_nbo (by omega)) ⟨by rw [hN9]; rfl, rfl⟩
              · refine dz_iload x.1 6 d_Model_applies_82 rfl ?_
                refine dz_if_ne (tgt := 96) x.1 d_Model_applies_84 (by decide) (by omega) (fun hc84 => ?_) (fun hc84 => by exfalso; omega)
                refine dz_iconst x.1 d_Model_applies_96 ?_
                have hN9 : sp_app k (decide (p = bg)) (decide (p + mn = e)) = false := by
                  by_cases h9 : False
                  · exact h9.elim
                  · first
                      | (exfalso; omega)
                      | (first | rw [decide_eq_true (show p = bg by omega)] | rw [decide_eq_false (show ¬ p = bg by omega)]) <;> (first | rw [decide_eq_true (show p + mn = e by omega)] | rw [decide_eq_false (show ¬ p + mn = e by omega)]) <;> unfold sp_app <;> (repeat (first | rw [if_pos (by omega)] | rw [if_neg (by omega)])) <;> rfl
                exact ly_iret x d_Model_applies_97 (dz_nbo (by omega)) ⟨by rw [hN9]; rfl, rfl⟩
            · refine dz_iload x.1 6 d_Model_applies_67 rfl ?_
              refine dz_if_ne (tgt := 77) x.1 d_Model_applies_69 (by decide) (by omega) (fun hc69 => ?_) (fun hc69 => by exfalso; omega)
              refine dz_iload_n x.1 1 d_Model_applies_77 rfl rfl ?_
              refine dz_iconst x.1 d_Model_applies_78 ?_
              refine dz_icmp_ne (tgt := 96) x.1 d_Model_applies_79 (by decide) (by omega) (by omega) (fun hc79 => ?_) (fun hc79 => ?_)
              · refine dz_iconst x.1 d_Model_applies_96 ?_
                have hN9 : sp_app k (decide (p = bg)) (decide (p + mn = e)) = false := by
                  by_cases h9 : False
                  · exact h9.elim
                  · first
                      | (exfalso; omega)
                      | (first | rw [decide_eq_true (show p = bg by omega)] | rw [decide_eq_false (show ¬ p = bg by omega)]) <;> (first | rw [decide_eq_true (show p + mn = e by omega)] | rw [decide_eq_false (show ¬ p + mn = e by omega)]) <;> unfold sp_app <;> (repeat (first | rw [if_pos (by omega)] | rw [if_neg (by omega)])) <;> rfl
                exact ly_iret x d_Model_applies_97 (dz_nbo (by omega)) ⟨by rw [hN9]; rfl, rfl⟩
              · refine dz_iload x.1 6 d_Model_applies_82 rfl ?_
                refine dz_if_ne (tgt := 96) x.1 d_Model_applies_84 (by decide) (by omega) (fun hc84 => ?_) (fun hc84 => by exfalso; omega)
                refine dz_iconst x.1 d_Model_applies_96 ?_
                have hN9 : sp_app k (decide (p = bg)) (decide (p + mn = e)) = false := by
                  by_cases h9 : False
                  · exact h9.elim
                  · first
                      | (exfalso; omega)
                      | (first | rw [decide_eq_true (show p = bg by omega)] | rw [decide_eq_false (show ¬ p = bg by omega)]) <;> (first | rw [decide_eq_true (show p + mn = e by omega)] | rw [decide_eq_false (show ¬ p + mn = e by omega)]) <;> unfold sp_app <;> (repeat (first | rw [if_pos (by omega)] | rw [if_neg (by omega)])) <;> rfl
                exact ly_iret x d_Model_applies_97 (dz_nbo (by omega)) ⟨by rw [hN9]; rfl, rfl⟩
        · refine dz_iload x.1 6 d_Model_applies_37 rfl ?_
          refine dz_if_eq (tgt := 47) x.1 d_Model_applies_39 (by decide) (by omega) (fun hc39 => by exfalso; omega) (fun hc39 => ?_)
          refine dz_iload x.1 7 d_Model_applies_42 rfl ?_
          refine dz_if_eq (tgt := 92) x.1 d_Model_applies_44 (by decide) (by omega) (fun hc44 => ?_) (fun hc44 => by exfalso; omega)
          refine dz_iconst x.1 d_Model_applies_92 ?_
          refine dz_goto (tgt := 97) x.1 d_Model_applies_93 (by decide) ?_
          have hN9 : sp_app k (decide (p = bg)) (decide (p + mn = e)) = true := by
            by_cases h9 : False
            · exact h9.elim
            · first
                | (exfalso; omega)
                | (first | rw [decide_eq_true (show p = bg by omega)] | rw [decide_eq_false (show ¬ p = bg by omega)]) <;> (first | rw [decide_eq_true (show p + mn = e by omega)] | rw [decide_eq_false (show ¬ p + mn = e by omega)]) <;> unfold sp_app <;> (repeat (first | rw [if_pos (by omega)] | rw [if_neg (by omega)])) <;> rfl
          exact ly_iret x d_Model_applies_97 (dz_nbo (by omega)) ⟨by rw [hN9]; rfl, rfl⟩
    · refine dz_iconst x.1 d_Model_applies_21 ?_
      refine dz_goto (tgt := 26) x.1 d_Model_applies_22 (by decide) ?_
      refine dz_istore (ls' := [(0, .ref (b + 130)), (1, .int (dz_i k)), (2, .int (dz_i p)), (3, .int (dz_i mn)), (4, .int (dz_i bg)), (5, .int (dz_i e)), (6, .int (dz_i 1)), (7, .int (dz_i 1))]) x.1 d_Model_applies_26 hN (by decide) rfl ?_
      refine dz_iload_n x.1 1 d_Model_applies_28 rfl rfl ?_
      refine dz_iconst x.1 d_Model_applies_29 ?_
      refine dz_icmp_eq (tgt := 92) x.1 d_Model_applies_30 (by decide) (by omega) (by omega) (fun hc30 => ?_) (fun hc30 => ?_)
      · refine dz_iconst x.1 d_Model_applies_92 ?_
        refine dz_goto (tgt := 97) x.1 d_Model_applies_93 (by decide) ?_
        have hN9 : sp_app k (decide (p = bg)) (decide (p + mn = e)) = true := by
          by_cases h9 : False
          · exact h9.elim
          · first
              | (exfalso; omega)
              | (first | rw [decide_eq_true (show p = bg by omega)] | rw [decide_eq_false (show ¬ p = bg by omega)]) <;> (first | rw [decide_eq_true (show p + mn = e by omega)] | rw [decide_eq_false (show ¬ p + mn = e by omega)]) <;> unfold sp_app <;> (repeat (first | rw [if_pos (by omega)] | rw [if_neg (by omega)])) <;> rfl
        exact ly_iret x d_Model_applies_97 (dz_nbo (by omega)) ⟨by rw [hN9]; rfl, rfl⟩
      · refine dz_iload_n x.1 1 d_Model_applies_33 rfl rfl ?_
        refine dz_if_ne (tgt := 47) x.1 d_Model_applies_34 (by decide) (by omega) (fun hc34 => ?_) (fun hc34 => ?_)
        · refine dz_iload_n x.1 1 d_Model_applies_47 rfl rfl ?_
          refine dz_iconst x.1 d_Model_applies_48 ?_
          refine dz_icmp_ne (tgt := 62) x.1 d_Model_applies_49 (by decide) (by omega) (by omega) (fun hc49 => ?_) (fun hc49 => ?_)
          · refine dz_iload_n x.1 1 d_Model_applies_62 rfl rfl ?_
            refine dz_iconst x.1 d_Model_applies_63 ?_
            refine dz_icmp_ne (tgt := 77) x.1 d_Model_applies_64 (by decide) (by omega) (by omega) (fun hc64 => ?_) (fun hc64 => ?_)
            · refine dz_iload_n x.1 1 d_Model_applies_77 rfl rfl ?_
              refine dz_iconst x.1 d_Model_applies_78 ?_
              refine dz_icmp_ne (tgt := 96) x.1 d_Model_applies_79 (by decide) (by omega) (by omega) (fun hc79 => ?_) (fun hc79 => ?_)
              · refine dz_iconst x.1 d_Model_applies_96 ?_
                have hN9 : sp_app k (decide (p = bg)) (decide (p + mn = e)) = false := by
                  by_cases h9 : False
                  · exact h9.elim
                  · first
                      | (exfalso; omega)
                      | (first | rw [decide_eq_true (show p = bg by omega)] | rw [decide_eq_false (show ¬ p = bg by omega)]) <;> (first | rw [decide_eq_true (show p + mn = e by omega)] | rw [decide_eq_false (show ¬ p + mn = e by omega)]) <;> unfold sp_app <;> (repeat (first | rw [if_pos (by omega)] | rw [if_neg (by omega)])) <;> rfl
                exact ly_iret x d_Model_applies_97 (dz_nbo (by omega)) ⟨by rw [hN9]; rfl, rfl⟩
              · refine dz_iload x.1 6 d_Model_applies_82 rfl ?_
                refine dz_if_ne (tgt := 96) x.1 d_Model_applies_84 (by decide) (by omega) (fun hc84 => ?_) (fun hc84 => by exfalso; omega)
                refine dz_iconst x.1 d_Model_applies_96 ?_
                have hN9 : sp_app k (decide (p = bg)) (decide (p + mn = e)) = false := by
                  by_cases h9 : False
                  · exact h9.elim
                  · first
                      | (exfalso; omega)
                      | (first | rw [decide_eq_true (show p = bg by omega)] | rw [decide_eq_false (show ¬ p = bg by omega)]) <;> (first | rw [decide_eq_true (show p + mn = e by omega)] | rw [decide_eq_false (show ¬ p + mn = e by omega)]) <;> unfold sp_app <;> (repeat (first | rw [if_pos (by omega)] | rw [if_neg (by omega)])) <;> rfl
                exact ly_iret x d_Model_applies_97 (dz_nbo (by omega)) ⟨by rw [hN9]; rfl, rfl⟩
            · refine dz_iload x.1 6 d_Model_applies_67 rfl ?_
              refine dz_if_ne (tgt := 77) x.1 d_Model_applies_69 (by decide) (by omega) (fun hc69 => ?_) (fun hc69 => by exfalso; omega)
              refine dz_iload_n x.1 1 d_Model_applies_77 rfl rfl ?_
              refine dz_iconst x.1 d_Model_applies_78 ?_
              refine dz_icmp_ne (tgt := 96) x.1 d_Model_applies_79 (by decide) (by omega) (by omega) (fun hc79 => ?_) (fun hc79 => ?_)
              · refine dz_iconst x.1 d_Model_applies_96 ?_
                have hN9 : sp_app k (decide (p = bg)) (decide (p + mn = e)) = false := by
                  by_cases h9 : False
                  · exact h9.elim
                  · first
                      | (exfalso; omega)
                      | (first | rw [decide_eq_true (show p = bg by omega)] | rw [decide_eq_false (show ¬ p = bg by omega)]) <;> (first | rw [decide_eq_true (show p + mn = e by omega)] | rw [decide_eq_false (show ¬ p + mn = e by omega)]) <;> unfold sp_app <;> (repeat (first | rw [if_pos (by omega)] | rw [if_neg (by omega)])) <;> rfl
                exact ly_iret x d_Model_applies_97 (dz_nbo (by omega)) ⟨by rw [hN9]; rfl, rfl⟩
              · refine dz_iload x.1 6 d_Model_applies_82 rfl ?_
                refine dz_if_ne (tgt := 96) x.1 d_Model_applies_84 (by decide) (by omega) (fun hc84 => ?_) (fun hc84 => by exfalso; omega)
                refine dz_iconst x.1 d_Model_applies_96 ?_
                have hN9 : sp_app k (decide (p = bg)) (decide (p + mn = e)) = false := by
                  by_cases h9 : False
                  · exact h9.elim
                  · first
                      | (exfalso; omega)
                      | (first | rw [decide_eq_true (show p = bg by omega)] | rw [decide_eq_false (show ¬ p = bg by omega)]) <;> (first | rw [decide_eq_true (show p + mn = e by omega)] | rw [decide_eq_false (show ¬ p + mn = e by omega)]) <;> unfold sp_app <;> (repeat (first | rw [if_pos (by omega)] | rw [if_neg (by omega)])) <;> rfl
                exact ly_iret x d_Model_applies_97 (dz_nbo (by omega)) ⟨by rw [hN9]; rfl, rfl⟩
          · refine dz_iload x.1 6 d_Model_applies_52 rfl ?_
            refine dz_if_eq (tgt := 62) x.1 d_Model_applies_54 (by decide) (by omega) (fun hc54 => by exfalso; omega) (fun hc54 => ?_)
            refine dz_iload x.1 7 d_Model_applies_57 rfl ?_
            refine dz_if_ne (tgt := 92) x.1 d_Model_applies_59 (by decide) (by omega) (fun hc59 => ?_) (fun hc59 => by exfalso; omega)
            refine dz_iconst x.1 d_Model_applies_92 ?_
            refine dz_goto (tgt := 97) x.1 d_Model_applies_93 (by decide) ?_
            have hN9 : sp_app k (decide (p = bg)) (decide (p + mn = e)) = true := by
              by_cases h9 : False
              · exact h9.elim
              · first
                  | (exfalso; omega)
                  | (first | rw [decide_eq_true (show p = bg by omega)] | rw [decide_eq_false (show ¬ p = bg by omega)]) <;> (first | rw [decide_eq_true (show p + mn = e by omega)] | rw [decide_eq_false (show ¬ p + mn = e by omega)]) <;> unfold sp_app <;> (repeat (first | rw [if_pos (by omega)] | rw [if_neg (by omega)])) <;> rfl
            exact ly_iret x d_Model_applies_97 (dz_nbo (by omega)) ⟨by rw [hN9]; rfl, rfl⟩
        · refine dz_iload x.1 6 d_Model_applies_37 rfl ?_
          refine dz_if_eq (tgt := 47) x.1 d_Model_applies_39 (by decide) (by omega) (fun hc39 => by exfalso; omega) (fun hc39 => ?_)
          refine dz_iload x.1 7 d_Model_applies_42 rfl ?_
          refine dz_if_eq (tgt := 92) x.1 d_Model_applies_44 (by decide) (by omega) (fun hc44 => by exfalso; omega) (fun hc44 => ?_)
          refine dz_iload_n x.1 1 d_Model_applies_47 rfl rfl ?_
          refine dz_iconst x.1 d_Model_applies_48 ?_
          refine dz_icmp_ne (tgt := 62) x.1 d_Model_applies_49 (by decide) (by omega) (by omega) (fun hc49 => ?_) (fun hc49 => ?_)
          · refine dz_iload_n x.1 1 d_Model_applies_62 rfl rfl ?_
            refine dz_iconst x.1 d_Model_applies_63 ?_
            refine dz_icmp_ne (tgt := 77) x.1 d_Model_applies_64 (by decide) (by omega) (by omega) (fun hc64 => ?_) (fun hc64 => ?_)
            · refine dz_iload_n x.1 1 d_Model_applies_77 rfl rfl ?_
              refine dz_iconst x.1 d_Model_applies_78 ?_
              refine dz_icmp_ne (tgt := 96) x.1 d_Model_applies_79 (by decide) (by omega) (by omega) (fun hc79 => ?_) (fun hc79 => ?_)
              · refine dz_iconst x.1 d_Model_applies_96 ?_
                have hN9 : sp_app k (decide (p = bg)) (decide (p + mn = e)) = false := by
                  by_cases h9 : False
                  · exact h9.elim
                  · first
                      | (exfalso; omega)
                      | (first | rw [decide_eq_true (show p = bg by omega)] | rw [decide_eq_false (show ¬ p = bg by omega)]) <;> (first | rw [decide_eq_true (show p + mn = e by omega)] | rw [decide_eq_false (show ¬ p + mn = e by omega)]) <;> unfold sp_app <;> (repeat (first | rw [if_pos (by omega)] | rw [if_neg (by omega)])) <;> rfl
                exact ly_iret x d_Model_applies_97 (dz_nbo (by omega)) ⟨by rw [hN9]; rfl, rfl⟩
              · refine dz_iload x.1 6 d_Model_applies_82 rfl ?_
                refine dz_if_ne (tgt := 96) x.1 d_Model_applies_84 (by decide) (by omega) (fun hc84 => ?_) (fun hc84 => by exfalso; omega)
                refine dz_iconst x.1 d_Model_applies_96 ?_
                have hN9 : sp_app k (decide (p = bg)) (decide (p + mn = e)) = false := by
                  by_cases h9 : False
                  · exact h9.elim
                  · first
                      | (exfalso; omega)
                      | (first | rw [decide_eq_true (show p = bg by omega)] | rw [decide_eq_false (show ¬ p = bg by omega)]) <;> (first | rw [decide_eq_true (show p + mn = e by omega)] | rw [decide_eq_false (show ¬ p + mn = e by omega)]) <;> unfold sp_app <;> (repeat (first | rw [if_pos (by omega)] | rw [if_neg (by omega)])) <;> rfl
                exact ly_iret x d_Model_applies_97 (dz_nbo (by omega)) ⟨by rw [hN9]; rfl, rfl⟩
            · refine dz_iload x.1 6 d_Model_applies_67 rfl ?_
              refine dz_if_ne (tgt := 77) x.1 d_Model_applies_69 (by decide) (by omega) (fun hc69 => ?_) (fun hc69 => by exfalso; omega)
              refine dz_iload_n x.1 1 d_Model_applies_77 rfl rfl ?_
              refine dz_iconst x.1 d_Model_applies_78 ?_
              refine dz_icmp_ne (tgt := 96) x.1 d_Model_applies_79 (by decide) (by omega) (by omega) (fun hc79 => ?_) (fun hc79 => ?_)
              · refine dz_iconst x.1 d_Model_applies_96 ?_
                have hN9 : sp_app k (decide (p = bg)) (decide (p + mn = e)) = false := by
                  by_cases h9 : False
                  · exact h9.elim
                  · first
                      | (exfalso; omega)
                      | (first | rw [decide_eq_true (show p = bg by omega)] | rw [decide_eq_false (show ¬ p = bg by omega)]) <;> (first | rw [decide_eq_true (show p + mn = e by omega)] | rw [decide_eq_false (show ¬ p + mn = e by omega)]) <;> unfold sp_app <;> (repeat (first | rw [if_pos (by omega)] | rw [if_neg (by omega)])) <;> rfl
                exact ly_iret x d_Model_applies_97 (dz_nbo (by omega)) ⟨by rw [hN9]; rfl, rfl⟩
              · refine dz_iload x.1 6 d_Model_applies_82 rfl ?_
                refine dz_if_ne (tgt := 96) x.1 d_Model_applies_84 (by decide) (by omega) (fun hc84 => ?_) (fun hc84 => by exfalso; omega)
                refine dz_iconst x.1 d_Model_applies_96 ?_
                have hN9 : sp_app k (decide (p = bg)) (decide (p + mn = e)) = false := by
                  by_cases h9 : False
                  · exact h9.elim
                  · first
                      | (exfalso; omega)
                      | (first | rw [decide_eq_true (show p = bg by omega)] | rw [decide_eq_false (show ¬ p = bg by omega)]) <;> (first | rw [decide_eq_true (show p + mn = e by omega)] | rw [decide_eq_false (show ¬ p + mn = e by omega)]) <;> unfold sp_app <;> (repeat (first | rw [if_pos (by omega)] | rw [if_neg (by omega)])) <;> rfl
                exact ly_iret x d_Model_applies_97 (dz_nbo (by omega)) ⟨by rw [hN9]; rfl, rfl⟩
          · refine dz_iload x.1 6 d_Model_applies_52 rfl ?_
            refine dz_if_eq (tgt := 62) x.1 d_Model_applies_54 (by decide) (by omega) (fun hc54 => by exfalso; omega) (fun hc54 => ?_)
            refine dz_iload x.1 7 d_Model_applies_57 rfl ?_
            refine dz_if_ne (tgt := 92) x.1 d_Model_applies_59 (by decide) (by omega) (fun hc59 => ?_) (fun hc59 => by exfalso; omega)
            refine dz_iconst x.1 d_Model_applies_92 ?_
            refine dz_goto (tgt := 97) x.1 d_Model_applies_93 (by decide) ?_
            have hN9 : sp_app k (decide (p = bg)) (decide (p + mn = e)) = true := by
              by_cases h9 : False
              · exact h9.elim
              · first
                  | (exfalso; omega)
                  | (first | rw [decide_eq_true (show p = bg by omega)] | rw [decide_eq_false (show ¬ p = bg by omega)]) <;> (first | rw [decide_eq_true (show p + mn = e by omega)] | rw [decide_eq_false (show ¬ p + mn = e by omega)]) <;> unfold sp_app <;> (repeat (first | rw [if_pos (by omega)] | rw [if_neg (by omega)])) <;> rfl
            exact ly_iret x d_Model_applies_97 (dz_nbo (by omega)) ⟨by rw [hN9]; rfl, rfl⟩
