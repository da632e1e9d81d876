/-- where a character stands in a text: 0 "wbmea", 1 ".,;:?!-'" -/
def sp_ix (i : Nat) (c : Int) : Int := if i = 0 then (if c = 119 then 0 else if c = 98 then 1 else if c = 109 then 2 else if c = 101 then 3 else if c = 97 then 4 else -1) else (if c = 46 then 0 else if c = 44 then 1 else if c = 59 then 2 else if c = 58 then 3 else if c = 63 then 4 else if c = 33 then 5 else if c = 45 then 6 else if c = 39 then 7 else -1)
theorem sp_ixn0 {c : Int} (h : c ≠ 119 ∧ c ≠ 98 ∧ c ≠ 109 ∧ c ≠ 101 ∧ c ≠ 97) : sp_ix 0 c = -1 := by
  unfold sp_ix; rw [if_pos rfl, if_neg h.1, if_neg h.2.1, if_neg h.2.2.1, if_neg h.2.2.2.1, if_neg h.2.2.2.2]
theorem sp_ixn1 {c : Int} (h : c ≠ 46 ∧ c ≠ 44 ∧ c ≠ 59 ∧ c ≠ 58 ∧ c ≠ 63 ∧ c ≠ 33 ∧ c ≠ 45 ∧ c ≠ 39) : sp_ix 1 c = -1 := by
  unfold sp_ix; rw [if_neg (by decide), if_neg h.1, if_neg h.2.1, if_neg h.2.2.1, if_neg h.2.2.2.1, if_neg h.2.2.2.2.1, if_neg h.2.2.2.2.2.1, if_neg h.2.2.2.2.2.2.1, if_neg h.2.2.2.2.2.2.2]
theorem sp_f {c k r : Int} {i : Nat} (h : c = k) (hk : sp_ix i k = r) : some (Value.int (dz_i r)) = some (Value.int (dz_i (sp_ix i c))) := by subst h; rw [hk]
theorem sp_ix_rng (i : Nat) (c : Int) : -1 ≤ sp_ix i c ∧ sp_ix i c ≤ 7 := by unfold sp_ix; (repeat' split) <;> omega
set_option maxRecDepth 100000 in
set_option maxHeartbeats 4000000 in
theorem c_JL1_canEncode (l : Launch) (D : va_G) (Dt : Nat → ClassId) (b sz : Nat) (I : dz_Hp) (c : Int) (hc : 0 ≤ c ∧ c < 65536) : ly_M l D Dt b sz y_JL1_canEncode b_JL1_canEncode 1 (some .boolean) 1 [.int (dz_i c)] I (fun v I' => v = some (.int (dz_i (if c ≤ 255 then 1 else 0))) ∧ I' = I) := by
  refine ly_enter R_JL1 (by decide) rfl (Nat.le_of_ble_eq_true rfl) (ly_cat _ 0 rfl) (fun κ x => ?_)
  have hN := ly_N x
  show ly_V κ b sz I 0 [(0, .int (dz_i c))] []
  refine dz_iload_n x.1 0 d_JL1_canEncode_0 rfl rfl ?_
  refine dz_if_lt (tgt := 15) x.1 d_JL1_canEncode_1 (by decide) (by omega) (fun hc1 => ?_) (fun hc1 => ?_)
  · refine dz_iconst x.1 d_JL1_canEncode_15 ?_
    exact ly_iret x d_JL1_canEncode_16 (dz_nbo (by omega)) ⟨by first | (exfalso; omega) | rw [if_pos (by omega)] | rw [if_neg (by omega)], rfl⟩
  · refine dz_iload_n x.1 0 d_JL1_canEncode_4 rfl rfl ?_
    refine dz_sipush x.1 d_JL1_canEncode_5 (by decide) ?_
    refine dz_icmp_gt (tgt := 15) x.1 d_JL1_canEncode_8 (by decide) (by omega) (by omega) (fun hc2 => ?_) (fun hc2 => ?_)
    · refine dz_iconst x.1 d_JL1_canEncode_15 ?_
      exact ly_iret x d_JL1_canEncode_16 (dz_nbo (by omega)) ⟨by first | (exfalso; omega) | rw [if_pos (by omega)] | rw [if_neg (by omega)], rfl⟩
    · refine dz_iconst x.1 d_JL1_canEncode_11 ?_
      refine dz_goto (tgt := 16) x.1 d_JL1_canEncode_12 (by decide) ?_
      exact ly_iret x d_JL1_canEncode_16 (dz_nbo (by omega)) ⟨by first | (exfalso; omega) | rw [if_pos (by omega)] | rw [if_neg (by omega)], rfl⟩
set_option maxRecDepth 100000 in
set_option maxHeartbeats 4000000 in
theorem c_JL1_indexOfChar_0 (l : Launch) (D : va_G) (Dt : Nat → ClassId) (b sz : Nat) (I : dz_Hp) (c : Int) (hc : 0 ≤ c ∧ c < 256) : ly_M l D Dt b sz y_JL1_indexOfChar b_JL1_indexOfChar 6 (some .int) 1 [.ref (Dt (200 + 0)), .int (dz_i c), .int (dz_i 0), .int (dz_i 5)] I (fun v I' => v = some (.int (dz_i (sp_ix 0 c))) ∧ I' = I) := by
  refine ly_enter R_JL1 (by decide) rfl (Nat.le_of_ble_eq_true rfl) (ly_cat _ 0 rfl) (fun κ x => ?_)
  have hN := ly_N x
  show ly_V κ b sz I 0 [(0, .ref (Dt (200 + 0))), (1, .int (dz_i c)), (2, .int (dz_i 0)), (3, .int (dz_i 5))] []
  by_cases h8 : c < 128
  · refine dz_iload_n x.1 1 d_JL1_indexOfChar_0 rfl rfl ?_
    refine ly_i2b (w := c) x (by omega) (by rw [if_pos h8]) d_JL1_indexOfChar_1 ?_
    refine dz_istore (ls' := [(0, .ref (Dt (200 + 0))), (1, .int (dz_i c)), (2, .int (dz_i 0)), (3, .int (dz_i 5)), (4, .int (dz_i c))]) x.1 d_JL1_indexOfChar_2 hN (by decide) rfl ?_
    refine dz_iload_n x.1 2 d_JL1_indexOfChar_4 rfl rfl ?_
    refine dz_istore (ls' := [(0, .ref (Dt (200 + 0))), (1, .int (dz_i c)), (2, .int (dz_i 0)), (3, .int (dz_i 5)), (4, .int (dz_i c)), (5, .int (dz_i 0))]) x.1 d_JL1_indexOfChar_5 hN (by decide) rfl ?_
    refine dz_iload x.1 5 d_JL1_indexOfChar_7 rfl ?_
    refine dz_iload_n x.1 3 d_JL1_indexOfChar_9 rfl rfl ?_
    refine dz_icmp_ge (tgt := 31) x.1 d_JL1_indexOfChar_10 (by decide) (by omega) (by omega) (fun hc1 => by exfalso; omega) (fun hc1 => ?_)
    refine dz_aload_n x.1 0 d_JL1_indexOfChar_13 rfl rfl ?_
    refine dz_iload x.1 5 d_JL1_indexOfChar_14 rfl ?_
    refine ly_tbl (i := 0) (w := 119) x (by decide) (by decide) (by decide) d_JL1_indexOfChar_16 ?_
    refine dz_iload x.1 4 d_JL1_indexOfChar_17 rfl ?_
    refine dz_icmp_ne (tgt := 25) x.1 d_JL1_indexOfChar_19 (by decide) (by omega) (by omega) (fun hc2 => ?_) (fun hc2 => ?_)
    · refine dz_iinc (z := 1) (ls' := [(0, .ref (Dt (200 + 0))), (1, .int (dz_i c)), (2, .int (dz_i 0)), (3, .int (dz_i 5)), (4, .int (dz_i c)), (5, .int (dz_i 1))]) x.1 5 d_JL1_indexOfChar_25 rfl hN (by decide) (by omega) rfl ?_
      refine dz_goto (tgt := 7) x.1 d_JL1_indexOfChar_28 (by decide) ?_
      refine dz_iload x.1 5 d_JL1_indexOfChar_7 rfl ?_
      refine dz_iload_n x.1 3 d_JL1_indexOfChar_9 rfl rfl ?_
      refine dz_icmp_ge (tgt := 31) x.1 d_JL1_indexOfChar_10 (by decide) (by omega) (by omega) (fun hc3 => by exfalso; omega) (fun hc3 => ?_)
      refine dz_aload_n x.1 0 d_JL1_indexOfChar_13 rfl rfl ?_
      refine dz_iload x.1 5 d_JL1_indexOfChar_14 rfl ?_
      refine ly_tbl (i := 0) (w := 98) x (by decide) (by decide) (by decide) d_JL1_indexOfChar_16 ?_
      refine dz_iload x.1 4 d_JL1_indexOfChar_17 rfl ?_
      refine dz_icmp_ne (tgt := 25) x.1 d_JL1_indexOfChar_19 (by decide) (by omega) (by omega) (fun hc4 => ?_) (fun hc4 => ?_)
      · refine dz_iinc (z := 2) (ls' := [(0, .ref (Dt (200 + 0))), (1, .int (dz_i c)), (2, .int (dz_i 0)), (3, .int (dz_i 5)), (4, .int (dz_i c)), (5, .int (dz_i 2))]) x.1 5 d_JL1_indexOfChar_25 rfl hN (by decide) (by omega) rfl ?_
        refine dz_goto (tgt := 7) x.1 d_JL1_indexOfChar_28 (by decide) ?_
        refine dz_iload x.1 5 d_JL1_indexOfChar_7 rfl ?_
        refine dz_iload_n x.1 3 d_JL1_indexOfChar_9 rfl rfl ?_
        refine dz_icmp_ge (tgt := 31) x.1 d_JL1_indexOfChar_10 (by decide) (by omega) (by omega) (fun hc5 => by exfalso; omega) (fun hc5 => ?_)
        refine dz_aload_n x.1 0 d_JL1_indexOfChar_13 rfl rfl ?_
        refine dz_iload x.1 5 d_JL1_indexOfChar_14 rfl ?_
        refine ly_tbl (i := 0) (w := 109) x (by decide) (by decide) (by decide) d_JL1_indexOfChar_16 ?_
        refine dz_iload x.1 4 d_JL1_indexOfChar_17 rfl ?_
        refine dz_icmp_ne (tgt := 25) x.1 d_JL1_indexOfChar_19 (by decide) (by omega) (by omega) (fun hc6 => ?_) (fun hc6 => ?_)
        · refine dz_iinc (z := 3) (ls' := [(0, .ref (Dt (200 + 0))), (1, .int (dz_i c)), (2, .int (dz_i 0)), (3, .int (dz_i 5)), (4, .int (dz_i c)), (5, .int (dz_i 3))]) x.1 5 d_JL1_indexOfChar_25 rfl hN (by decide) (by omega) rfl ?_
          refine dz_goto (tgt := 7) x.1 d_JL1_indexOfChar_28 (by decide) ?_
          refine dz_iload x.1 5 d_JL1_indexOfChar_7 rfl ?_
          refine dz_iload_n x.1 3 d_JL1_indexOfChar_9 rfl rfl ?_
          refine dz_icmp_ge (tgt := 31) x.1 d_JL1_indexOfChar_10 (by decide) (by omega) (by omega) (fun hc7 => by exfalso; omega) (fun hc7 => ?_)
          refine dz_aload_n x.1 0 d_JL1_indexOfChar_13 rfl rfl ?_
          refine dz_iload x.1 5 d_JL1_indexOfChar_14 rfl ?_
          refine ly_tbl (i := 0) (w := 101) x (by decide) (by decide) (by decide) d_JL1_indexOfChar_16 ?_
          refine dz_iload x.1 4 d_JL1_indexOfChar_17 rfl ?_
          refine dz_icmp_ne (tgt := 25) x.1 d_JL1_indexOfChar_19 (by decide) (by omega) (by omega) (fun hc8 => ?_) (fun hc8 => ?_)
          · refine dz_iinc (z := 4) (ls' := [(0, .ref (Dt (200 + 0))), (1, .int (dz_i c)), (2, .int (dz_i 0)), (3, .int (dz_i 5)), (4, .int (dz_i c)), (5, .int (dz_i 4))]) x.1 5 d_JL1_indexOfChar_25 rfl hN (by decide) (by omega) rfl ?_
            refine dz_goto (tgt := 7) x.1 d_JL1_indexOfChar_28 (by decide) ?_
            refine dz_iload x.1 5 d_JL1_indexOfChar_7 rfl ?_
            refine dz_iload_n x.1 3 d_JL1_indexOfChar_9 rfl rfl ?_
            refine dz_icmp_ge (tgt := 31) x.1 d_JL1_indexOfChar_10 (by decide) (by omega) (by omega) (fun hc9 => by exfalso; omega) (fun hc9 => ?_)
            refine dz_aload_n x.1 0 d_JL1_indexOfChar_13 rfl rfl ?_
            refine dz_iload x.1 5 d_JL1_indexOfChar_14 rfl ?_
            refine ly_tbl (i := 0) (w := 97) x (by decide) (by decide) (by decide) d_JL1_indexOfChar_16 ?_
            refine dz_iload x.1 4 d_JL1_indexOfChar_17 rfl ?_
            refine dz_icmp_ne (tgt := 25) x.1 d_JL1_indexOfChar_19 (by decide) (by omega) (by omega) (fun hc10 => ?_) (fun hc10 => ?_)
            · refine dz_iinc (z := 5) (ls' := [(0, .ref (Dt (200 + 0))), (1, .int (dz_i c)), (2, .int (dz_i 0)), (3, .int (dz_i 5)), (4, .int (dz_i c)), (5, .int (dz_i 5))]) x.1 5 d_JL1_indexOfChar_25 rfl hN (by decide) (by omega) rfl ?_
              refine dz_goto (tgt := 7) x.1 d_JL1_indexOfChar_28 (by decide) ?_
              refine dz_iload x.1 5 d_JL1_indexOfChar_7 rfl ?_
              refine dz_iload_n x.1 3 d_JL1_indexOfChar_9 rfl rfl ?_
              refine dz_icmp_ge (tgt := 31) x.1 d_JL1_indexOfChar_10 (by decide) (by omega) (by omega) (fun hc11 => ?_) (fun hc11 => by exfalso; omega)
              refine dz_iconst x.1 d_JL1_indexOfChar_31 ?_
              exact ly_iret x d_JL1_indexOfChar_32 rfl ⟨by rw [sp_ixn0 (by omega)], rfl⟩
            · refine dz_iload x.1 5 d_JL1_indexOfChar_22 rfl ?_
              exact ly_iret x d_JL1_indexOfChar_24 rfl ⟨sp_f (k := 97) (by omega) rfl, rfl⟩
          · refine dz_iload x.1 5 d_JL1_indexOfChar_22 rfl ?_
            exact ly_iret x d_JL1_indexOfChar_24 rfl ⟨sp_f (k := 101) (by omega) rfl, rfl⟩
        · refine dz_iload x.1 5 d_JL1_indexOfChar_22 rfl ?_
          exact ly_iret x d_JL1_indexOfChar_24 rfl ⟨sp_f (k := 109) (by omega) rfl, rfl⟩
      · refine dz_iload x.1 5 d_JL1_indexOfChar_22 rfl ?_
        exact ly_iret x d_JL1_indexOfChar_24 rfl ⟨sp_f (k := 98) (by omega) rfl, rfl⟩
    · refine dz_iload x.1 5 d_JL1_indexOfChar_22 rfl ?_
      exact ly_iret x d_JL1_indexOfChar_24 rfl ⟨sp_f (k := 119) (by omega) rfl, rfl⟩
  · refine dz_iload_n x.1 1 d_JL1_indexOfChar_0 rfl rfl ?_
    refine ly_i2b (w := c - 256) x (by omega) (by rw [if_neg h8]) d_JL1_indexOfChar_1 ?_
    refine dz_istore (ls' := [(0, .ref (Dt (200 + 0))), (1, .int (dz_i c)), (2, .int (dz_i 0)), (3, .int (dz_i 5)), (4, .int (dz_i (c - 256)))]) x.1 d_JL1_indexOfChar_2 hN (by decide) rfl ?_
    refine dz_iload_n x.1 2 d_JL1_indexOfChar_4 rfl rfl ?_
    refine dz_istore (ls' := [(0, .ref (Dt (200 + 0))), (1, .int (dz_i c)), (2, .int (dz_i 0)), (3, .int (dz_i 5)), (4, .int (dz_i (c - 256))), (5, .int (dz_i 0))]) x.1 d_JL1_indexOfChar_5 hN (by decide) rfl ?_
    refine dz_iload x.1 5 d_JL1_indexOfChar_7 rfl ?_
    refine dz_iload_n x.1 3 d_JL1_indexOfChar_9 rfl rfl ?_
    refine dz_icmp_ge (tgt := 31) x.1 d_JL1_indexOfChar_10 (by decide) (by omega) (by omega) (fun hc1 => by exfalso; omega) (fun hc1 => ?_)
    refine dz_aload_n x.1 0 d_JL1_indexOfChar_13 rfl rfl ?_
    refine dz_iload x.1 5 d_JL1_indexOfChar_14 rfl ?_
    refine ly_tbl (i := 0) (w := 119) x (by decide) (by decide) (by decide) d_JL1_indexOfChar_16 ?_
    refine dz_iload x.1 4 d_JL1_indexOfChar_17 rfl ?_
    refine dz_icmp_ne (tgt := 25) x.1 d_JL1_indexOfChar_19 (by decide) (by omega) (by omega) (fun hc2 => ?_) (fun hc2 => ?_)
    · refine dz_iinc (z := 1) (ls' := [(0, .ref (Dt (200 + 0))), (1, .int (dz_i c)), (2, .int (dz_i 0)), (3, .int (dz_i 5)), (4, .int (dz_i (c - 256))), (5, .int (dz_i 1))]) x.1 5 d_JL1_indexOfChar_25 rfl hN (by decide) (by omega) rfl ?_
      refine dz_goto (tgt := 7) x.1 d_JL1_indexOfChar_28 (by decide) ?_
      refine dz_iload x.1 5 d_JL1_indexOfChar_7 rfl ?_
      refine dz_iload_n x.1 3 d_JL1_indexOfChar_9 rfl rfl ?_
      refine dz_icmp_ge (tgt := 31) x.1 d_JL1_indexOfChar_10 (by decide) (by omega) (by omega) (fun hc3 => by exfalso; omega) (fun hc3 => ?_)
      refine dz_aload_n x.1 0 d_JL1_indexOfChar_13 rfl rfl ?_
      refine dz_iload x.1 5 d_JL1_indexOfChar_14 rfl ?_
      refine ly_tbl (i := 0) (w := 98) x (by decide) (by decide) (by decide) d_JL1_indexOfChar_16 ?_
      refine dz_iload x.1 4 d_JL1_indexOfChar_17 rfl ?_
      refine dz_icmp_ne (tgt := 25) x.1 d_JL1_indexOfChar_19 (by decide) (by omega) (by omega) (fun hc4 => ?_) (fun hc4 => ?_)
      · refine dz_iinc (z := 2) (ls' := [(0, .ref (Dt (200 + 0))), (1, .int (dz_i c)), (2, .int (dz_i 0)), (3, .int (dz_i 5)), (4, .int (dz_i (c - 256))), (5, .int (dz_i 2))]) x.1 5 d_JL1_indexOfChar_25 rfl hN (by decide) (by omega) rfl ?_
        refine dz_goto (tgt := 7) x.1 d_JL1_indexOfChar_28 (by decide) ?_
        refine dz_iload x.1 5 d_JL1_indexOfChar_7 rfl ?_
        refine dz_iload_n x.1 3 d_JL1_indexOfChar_9 rfl rfl ?_
        refine dz_icmp_ge (tgt := 31) x.1 d_JL1_indexOfChar_10 (by decide) (by omega) (by omega) (fun hc5 => by exfalso; omega) (fun hc5 => ?_)
        refine dz_aload_n x.1 0 d_JL1_indexOfChar_13 rfl rfl ?_
        refine dz_iload x.1 5 d_JL1_indexOfChar_14 rfl ?_
        refine ly_tbl (i := 0) (w := 109) x (by decide) (by decide) (by decide) d_JL1_indexOfChar_16 ?_
        refine dz_iload x.1 4 d_JL1_indexOfChar_17 rfl ?_
        refine dz_icmp_ne (tgt := 25) x.1 d_JL1_indexOfChar_19 (by decide) (by omega) (by omega) (fun hc6 => ?_) (fun hc6 => ?_)
        · refine dz_iinc (z := 3) (ls' := [(0, .ref (Dt (200 + 0))), (1, .int (dz_i c)), (2, .int (dz_i 0)), (3, .int (dz_i 5)), (4, .int (dz_i (c - 256))), (5, .int (dz_i 3))]) x.1 5 d_JL1_indexOfChar_25 rfl hN (by decide) (by omega) rfl ?_
          refine dz_goto (tgt := 7) x.1 d_JL1_indexOfChar_28 (by decide) ?_
          refine dz_iload x.1 5 d_JL1_indexOfChar_7 rfl ?_
          refine dz_iload_n x.1 3 d_JL1_indexOfChar_9 rfl rfl ?_
          refine dz_icmp_ge (tgt := 31) x.1 d_JL1_indexOfChar_10 (by decide) (by omega) (by omega) (fun hc7 => by exfalso; omega) (fun hc7 => ?_)
          refine dz_aload_n x.1 0 d_JL1_indexOfChar_13 rfl rfl ?_
          refine dz_iload x.1 5 d_JL1_indexOfChar_14 rfl ?_
          refine ly_tbl (i := 0) (w := 101) x (by decide) (by decide) (by decide) d_JL1_indexOfChar_16 ?_
          refine dz_iload x.1 4 d_JL1_indexOfChar_17 rfl ?_
          refine dz_icmp_ne (tgt := 25) x.1 d_JL1_indexOfChar_19 (by decide) (by omega) (by omega) (fun hc8 => ?_) (fun hc8 => ?_)
          · refine dz_iinc (z := 4) (ls' := [(0, .ref (Dt (200 + 0))), (1, .int (dz_i c)), (2, .int (dz_i 0)), (3, .int (dz_i 5)), (4, .int (dz_i (c - 256))), (5, .int (dz_i 4))]) x.1 5 d_JL1_indexOfChar_25 rfl hN (by decide) (by omega) rfl ?_
            refine dz_goto (tgt := 7) x.1 d_JL1_indexOfChar_28 (by decide) ?_
            refine dz_iload x.1 5 d_JL1_indexOfChar_7 rfl ?_
            refine dz_iload_n x.1 3 d_JL1_indexOfChar_9 rfl rfl ?_
            refine dz_icmp_ge (tgt := 31) x.1 d_JL1_indexOfChar_10 (by decide) (by omega) (by omega) (fun hc9 => by exfalso; omega) (fun hc9 => ?_)
            refine dz_aload_n x.1 0 d_JL1_indexOfChar_13 rfl rfl ?_
            refine dz_iload x.1 5 d_JL1_indexOfChar_14 rfl ?_
            refine ly_tbl (i := 0) (w := 97) x (by decide) (by decide) (by decide) d_JL1_indexOfChar_16 ?_
            refine dz_iload x.1 4 d_JL1_indexOfChar_17 rfl ?_
            refine dz_icmp_ne (tgt := 25) x.1 d_JL1_indexOfChar_19 (by decide) (by omega) (by omega) (fun hc10 => ?_) (fun hc10 => ?_)
            · refine dz_iinc (z := 5) (ls' := [(0, .ref (Dt (200 + 0))), (1, .int (dz_i c)), (2, .int (dz_i 0)), (3, .int (dz_i 5)), (4, .int (dz_i (c - 256))), (5, .int (dz_i 5))]) x.1 5 d_JL1_indexOfChar_25 rfl hN (by decide) (by omega) rfl ?_
              refine dz_goto (tgt := 7) x.1 d_JL1_indexOfChar_28 (by decide) ?_
              refine dz_iload x.1 5 d_JL1_indexOfChar_7 rfl ?_
              refine dz_iload_n x.1 3 d_JL1_indexOfChar_9 rfl rfl ?_
              refine dz_icmp_ge (tgt := 31) x.1 d_JL1_indexOfChar_10 (by decide) (by omega) (by omega) (fun hc11 => ?_) (fun hc11 => by exfalso; omega)
              refine dz_iconst x.1 d_JL1_indexOfChar_31 ?_
              exact ly_iret x d_JL1_indexOfChar_32 rfl ⟨by rw [sp_ixn0 (by omega)], rfl⟩
            · refine dz_iload x.1 5 d_JL1_indexOfChar_22 rfl ?_
              exact ly_iret x d_JL1_indexOfChar_24 rfl ⟨sp_f (k := 97) (by omega) rfl, rfl⟩
          · refine dz_iload x.1 5 d_JL1_indexOfChar_22 rfl ?_
            exact ly_iret x d_JL1_indexOfChar_24 rfl ⟨sp_f (k := 101) (by omega) rfl, rfl⟩
        · refine dz_iload x.1 5 d_JL1_indexOfChar_22 rfl ?_
          exact ly_iret x d_JL1_indexOfChar_24 rfl ⟨sp_f (k := 109) (by omega) rfl, rfl⟩
      · refine dz_iload x.1 5 d_JL1_indexOfChar_22 rfl ?_
        exact ly_iret x d_JL1_indexOfChar_24 rfl ⟨sp_f (k := 98) (by omega) rfl, rfl⟩
    · refine dz_iload x.1 5 d_JL1_indexOfChar_22 rfl ?_
      exact ly_iret x d_JL1_indexOfChar_24 rfl ⟨sp_f (k := 119) (by omega) rfl, rfl⟩
set_option maxRecDepth 100000 in
set_option maxHeartbeats 4000000 in
theorem c_JL1_indexOfChar_1 (l : Launch) (D : va_G) (Dt : Nat → ClassId) (b sz : Nat) (I : dz_Hp) (c : Int) (hc : 0 ≤ c ∧ c < 256) : ly_M l D Dt b sz y_JL1_indexOfChar b_JL1_indexOfChar 6 (some .int) 1 [.ref (Dt (200 + 1)), .int (dz_i c), .int (dz_i 0), .int (dz_i 8)] I (fun v I' => v = some (.int (dz_i (sp_ix 1 c))) ∧ I' = I) := by
  refine ly_enter R_JL1 (by decide) rfl (Nat.le_of_ble_eq_true rfl) (ly_cat _ 0 rfl) (fun κ x => ?_)
  have hN := ly_N x
  show ly_V κ b sz I 0 [(0, .ref (Dt (200 + 1))), (1, .int (dz_i c)), (2, .int (dz_i 0)), (3, .int (dz_i 8))] []
  by_cases h8 : c < 128
  · refine dz_iload_n x.1 1 d_JL1_indexOfChar_0 rfl rfl ?_
    refine ly_i2b (w := c) x (by omega) (by rw [if_pos h8]) d_JL1_indexOfChar_1 ?_
    refine dz_istore (ls' := [(0, .ref (Dt (200 + 1))), (1, .int (dz_i c)), (2, .int (dz_i 0)), (3, .int (dz_i 8)), (4, .int (dz_i c))]) x.1 d_JL1_indexOfChar_2 hN (by decide) rfl ?_
    refine dz_iload_n x.1 2 d_JL1_indexOfChar_4 rfl rfl ?_
    refine dz_istore (ls' := [(0, .ref (Dt (200 + 1))), (1, .int (dz_i c)), (2, .int (dz_i 0)), (3, .int (dz_i 8)), (4, .int (dz_i c)), (5, .int (dz_i 0))]) x.1 d_JL1_indexOfChar_5 hN (by decide) rfl ?_
    refine dz_iload x.1 5 d_JL1_indexOfChar_7 rfl ?_
    refine dz_iload_n x.1 3 d_JL1_indexOfChar_9 rfl rfl ?_
    refine dz_icmp_ge (tgt := 31) x.1 d_JL1_indexOfChar_10 (by decide) (by omega) (by omega) (fun hc1 => by exfalso; omega) (fun hc1 => ?_)
    refine dz_aload_n x.1 0 d_JL1_indexOfChar_13 rfl rfl ?_
    refine dz_iload x.1 5 d_JL1_indexOfChar_14 rfl ?_
    refine ly_tbl (i := 1) (w := 46) x (by decide) (by decide) (by decide) d_JL1_indexOfChar_16 ?_
    refine dz_iload x.1 4 d_JL1_indexOfChar_17 rfl ?_
    refine dz_icmp_ne (tgt := 25) x.1 d_JL1_indexOfChar_19 (by decide) (by omega) (by omega) (fun hc2 => ?_) (fun hc2 => ?_)
    · refine dz_iinc (z := 1) (ls' := [(0, .ref (Dt (200 + 1))), (1, .int (dz_i c)), (2, .int (dz_i 0)), (3, .int (dz_i 8)), (4, .int (dz_i c)), (5, .int (dz_i 1))]) x.1 5 d_JL1_indexOfChar_25 rfl hN (by decide) (by omega) rfl ?_
      refine dz_goto (tgt := 7) x.1 d_JL1_indexOfChar_28 (by decide) ?_
      refine dz_iload x.1 5 d_JL1_indexOfChar_7 rfl ?_
      refine dz_iload_n x.1 3 d_JL1_indexOfChar_9 rfl rfl ?_
      refine dz_icmp_ge (tgt := 31) x.1 d_JL1_indexOfChar_10 (by decide) (by omega) (by omega) (fun hc3 => by exfalso; omega) (fun hc3 => ?_)
      refine dz_aload_n x.1 0 d_JL1_indexOfChar_13 rfl rfl ?_
      refine dz_iload x.1 5 d_JL1_indexOfChar_14 rfl ?_
      refine ly_tbl (i := 1) (w := 44) x (by decide) (by decide) (by decide) d_JL1_indexOfChar_16 ?_
      refine dz_iload x.1 4 d_JL1_indexOfChar_17 rfl ?_
      refine dz_icmp_ne (tgt := 25) x.1 d_JL1_indexOfChar_19 (by decide) (by omega) (by omega) (fun hc4 => ?_) (fun hc4 => ?_)
      · refine dz_iinc (z := 2) (ls' := [(0, .ref (Dt (200 + 1))), (1, .int (dz_i c)), (2, .int (dz_i 0)), (3, .int (dz_i 8)), (4, .int (dz_i c)), (5, .int (dz_i 2))]) x.1 5 d_JL1_indexOfChar_25 rfl hN (by decide) (by omega) rfl ?_
        refine dz_goto (tgt := 7) x.1 d_JL1_indexOfChar_28 (by decide) ?_
        refine dz_iload x.1 5 d_JL1_indexOfChar_7 rfl ?_
        refine dz_iload_n x.1 3 d_JL1_indexOfChar_9 rfl rfl ?_
        refine dz_icmp_ge (tgt := 31) x.1 d_JL1_indexOfChar_10 (by decide) (by omega) (by omega) (fun hc5 => by exfalso; omega) (fun hc5 => ?_)
        refine dz_aload_n x.1 0 d_JL1_indexOfChar_13 rfl rfl ?_
        refine dz_iload x.1 5 d_JL1_indexOfChar_14 rfl ?_
        refine ly_tbl (i := 1) (w := 59) x (by decide) (by decide) (by decide) d_JL1_indexOfChar_16 ?_
        refine dz_iload x.1 4 d_JL1_indexOfChar_17 rfl ?_
        refine dz_icmp_ne (tgt := 25) x.1 d_JL1_indexOfChar_19 (by decide) (by omega) (by omega) (fun hc6 => ?_) (fun hc6 => ?_)
        · refine dz_iinc (z := 3) (ls' := [(0, .ref (Dt (200 + 1))), (1, .int (dz_i c)), (2, .int (dz_i 0)), (3, .int (dz_i 8)), (4, .int (dz_i c)), (5, .int (dz_i 3))]) x.1 5 d_JL1_indexOfChar_25 rfl hN (by decide) (by omega) rfl ?_
          refine dz_goto (tgt := 7) x.1 d_JL1_indexOfChar_28 (by decide) ?_
          refine dz_iload x.1 5 d_JL1_indexOfChar_7 rfl ?_
          refine dz_iload_n x.1 3 d_JL1_indexOfChar_9 rfl rfl ?_
          refine dz_icmp_ge (tgt := 31) x.1 d_JL1_indexOfChar_10 (by decide) (by omega) (by omega) (fun hc7 => by exfalso; omega) (fun hc7 => ?_)
          refine dz_aload_n x.1 0 d_JL1_indexOfChar_13 rfl rfl ?_
          refine dz_iload x.1 5 d_JL1_indexOfChar_14 rfl ?_
          refine ly_tbl (i := 1) (w := 58) x (by decide) (by decide) (by decide) d_JL1_indexOfChar_16 ?_
          refine dz_iload x.1 4 d_JL1_indexOfChar_17 rfl ?_
          refine dz_icmp_ne (tgt := 25) x.1 d_JL1_indexOfChar_19 (by decide) (by omega) (by omega) (fun hc8 => ?_) (fun hc8 => ?_)
          · refine dz_iinc (z := 4) (ls' := [(0, .ref (Dt (200 + 1))), (1, .int (dz_i c)), (2, .int (dz_i 0)), (3, .int (dz_i 8)), (4, .int (dz_i c)), (5, .int (dz_i 4))]) x.1 5 d_JL1_indexOfChar_25 rfl hN (by decide) (by omega) rfl ?_
            refine dz_goto (tgt := 7) x.1 d_JL1_indexOfChar_28 (by decide) ?_
            refine dz_iload x.1 5 d_JL1_indexOfChar_7 rfl ?_
            refine dz_iload_n x.1 3 d_JL1_indexOfChar_9 rfl rfl ?_
            refine dz_icmp_ge (tgt := 31) x.1 d_JL1_indexOfChar_10 (by decide) (by omega) (by omega) (fun hc9 => by exfalso; omega) (fun hc9 => ?_)
            refine dz_aload_n x.1 0 d_JL1_indexOfChar_13 rfl rfl ?_
            refine dz_iload x.1 5 d_JL1_indexOfChar_14 rfl ?_
            refine ly_tbl (i := 1) (w := 63) x (by decide) (by decide) (by decide) d_JL1_indexOfChar_16 ?_
            refine dz_iload x.1 4 d_JL1_indexOfChar_17 rfl ?_
            refine dz_icmp_ne (tgt := 25) x.1 d_JL1_indexOfChar_19 (by decide) (by omega) (by omega) (fun hc10 => ?_) (fun hc10 => ?_)
            · refine dz_iinc (z := 5) (ls' := [(0, .ref (Dt (200 + 1))), (1, .int (dz_i c)), (2, .int (dz_i 0)), (3, .int (dz_i 8)), (4, .int (dz_i c)), (5, .int (dz_i 5))]) x.1 5 d_JL1_indexOfChar_25 rfl hN (by decide) (by omega) rfl ?_
              refine dz_goto (tgt := 7) x.1 d_JL1_indexOfChar_28 (by decide) ?_
              refine dz_iload x.1 5 d_JL1_indexOfChar_7 rfl ?_
              refine dz_iload_n x.1 3 d_JL1_indexOfChar_9 rfl rfl ?_
              refine dz_icmp_ge (tgt := 31) x.1 d_JL1_indexOfChar_10 (by decide) (by omega) (by omega) (fun hc11 => by exfalso; omega) (fun hc11 => ?_)
              refine dz_aload_n x.1 0 d_JL1_indexOfChar_13 rfl rfl ?_
              refine dz_iload x.1 5 d_JL1_indexOfChar_14 rfl ?_
              refine ly_tbl (i := 1) (w := 33) x (by decide) (by decide) (by decide) d_JL1_indexOfChar_16 ?_
              refine dz_iload x.1 4 d_JL1_indexOfChar_17 rfl ?_
              refine dz_icmp_ne (tgt := 25) x.1 d_JL1_indexOfChar_19 (by decide) (by omega) (by omega) (fun hc12 => ?_) (fun hc12 => ?_)
              · refine dz_iinc (z := 6) (ls' := [(0, .ref (Dt (200 + 1))), (1, .int (dz_i c)), (2, .int (dz_i 0)), (3, .int (dz_i 8)), (4, .int (dz_i c)), (5, .int (dz_i 6))]) x.1 5 d_JL1_indexOfChar_25 rfl hN (by decide) (by omega) rfl ?_
                refine dz_goto (tgt := 7) x.1 d_JL1_indexOfChar_28 (by decide) ?_
                refine dz_iload x.1 5 d_JL1_indexOfChar_7 rfl ?_
                refine dz_iload_n x.1 3 d_JL1_indexOfChar_9 rfl rfl ?_
                refine dz_icmp_ge (tgt := 31) x.1 d_JL1_indexOfChar_10 (by decide) (by omega) (by omega) (fun hc13 => by exfalso; omega) (fun hc13 => ?_)
                refine dz_aload_n x.1 0 d_JL1_indexOfChar_13 rfl rfl ?_
                refine dz_iload x.1 5 d_JL1_indexOfChar_14 rfl ?_
                refine ly_tbl (i := 1) (w := 45) x (by decide) (by decide) (by decide) d_JL1_indexOfChar_16 ?_
                refine dz_iload x.1 4 d_JL1_indexOfChar_17 rfl ?_
                refine dz_icmp_ne (tgt := 25) x.1 d_JL1_indexOfChar_19 (by decide) (by omega) (by omega) (fun hc14 => ?_) (fun hc14 => ?_)
                · refine dz_iinc (z := 7) (ls' := [(0, .ref (Dt (200 + 1))), (1, .int (dz_i c)), (2, .int (dz_i 0)), (3, .int (dz_i 8)), (4, .int (dz_i c)), (5, .int (dz_i 7))]) x.1 5 d_JL1_indexOfChar_25 rfl hN (by decide) (by omega) rfl ?_
                  refine dz_goto (tgt := 7) x.1 d_JL1_indexOfChar_28 (by decide) ?_
                  refine dz_iload x.1 5 d_JL1_indexOfChar_7 rfl ?_
                  refine dz_iload_n x.1 3 d_JL1_indexOfChar_9 rfl rfl ?_
                  refine dz_icmp_ge (tgt := 31) x.1 d_JL1_indexOfChar_10 (by decide) (by omega) (by omega) (fun hc15 => by exfalso; omega) (fun hc15 => ?_)
                  refine dz_aload_n x.1 0 d_JL1_indexOfChar_13 rfl rfl ?_
                  refine dz_iload x.1 5 d_JL1_indexOfChar_14 rfl ?_
                  refine ly_tbl (i := 1) (w := 39) x (by decide) (by decide) (by decide) d_JL1_indexOfChar_16 ?_
                  refine dz_iload x.1 4 d_JL1_indexOfChar_17 rfl ?_
                  refine dz_icmp_ne (tgt := 25) x.1 d_JL1_indexOfChar_19 (by decide) (by omega) (by omega) (fun hc16 => ?_) (fun hc16 => ?_)
                  · refine dz_iinc (z := 8) (ls' := [(0, .ref (Dt (200 + 1))), (1, .int (dz_i c)), (2, .int (dz_i 0)), (3, .int (dz_i 8)), (4, .int (dz_i c)), (5, .int (dz_i 8))]) x.1 5 d_JL1_indexOfChar_25 rfl hN (by decide) (by omega) rfl ?_
                    refine dz_goto (tgt := 7) x.1 d_JL1_indexOfChar_28 (by decide) ?_
                    refine dz_iload x.1 5 d_JL1_indexOfChar_7 rfl ?_
                    refine dz_iload_n x.1 3 d_JL1_indexOfChar_9 rfl rfl ?_
                    refine dz_icmp_ge (tgt := 31) x.1 d_JL1_indexOfChar_10 (by decide) (by omega) (by omega) (fun hc17 => ?_) (fun hc17 => by exfalso; omega)
                    refine dz_iconst x.1 d_JL1_indexOfChar_31 ?_
                    exact ly_iret x d_JL1_indexOfChar_32 rfl ⟨by rw [sp_ixn1 (by omega)], rfl⟩
                  · refine dz_iload x.1 5 d_JL1_indexOfChar_22 rfl ?_
                    exact ly_iret x d_JL1_indexOfChar_24 rfl ⟨sp_f (k := 39) (by omega) rfl, rfl⟩
                · refine dz_iload x.1 5 d_JL1_indexOfChar_22 rfl ?_
                  exact ly_iret x d_JL1_indexOfChar_24 rfl ⟨sp_f (k := 45) (by omega) rfl, rfl⟩
              · refine dz_iload x.1 5 d_JL1_indexOfChar_22 rfl ?_
                exact ly_iret x d_JL1_indexOfChar_24 rfl ⟨sp_f (k := 33) (by omega) rfl, rfl⟩
            · refine dz_iload x.1 5 d_JL1_indexOfChar_22 rfl ?_
              exact ly_iret x d_JL1_indexOfChar_24 rfl ⟨sp_f (k := 63) (by omega) rfl, rfl⟩
          · refine dz_iload x.1 5 d_JL1_indexOfChar_22 rfl ?_
            exact ly_iret x d_JL1_indexOfChar_24 rfl ⟨sp_f (k := 58) (by omega) rfl, rfl⟩
        · refine dz_iload x.1 5 d_JL1_indexOfChar_22 rfl ?_
          exact ly_iret x d_JL1_indexOfChar_24 rfl ⟨sp_f (k := 59) (by omega) rfl, rfl⟩
      · refine dz_iload x.1 5 d_JL1_indexOfChar_22 rfl ?_
        exact ly_iret x d_JL1_indexOfChar_24 rfl ⟨sp_f (k := 44) (by omega) rfl, rfl⟩
    · refine dz_iload x.1 5 d_JL1_indexOfChar_22 rfl ?_
      exact ly_iret x d_JL1_indexOfChar_24 rfl ⟨sp_f (k := 46) (by omega) rfl, rfl⟩
  · refine dz_iload_n x.1 1 d_JL1_indexOfChar_0 rfl rfl ?_
    refine ly_i2b (w := c - 256) x (by omega) (by rw [if_neg h8]) d_JL1_indexOfChar_1 ?_
    refine dz_istore (ls' := [(0, .ref (Dt (200 + 1))), (1, .int (dz_i c)), (2, .int (dz_i 0)), (3, .int (dz_i 8)), (4, .int (dz_i (c - 256)))]) x.1 d_JL1_indexOfChar_2 hN (by decide) rfl ?_
    refine dz_iload_n x.1 2 d_JL1_indexOfChar_4 rfl rfl ?_
    refine dz_istore (ls' := [(0, .ref (Dt (200 + 1))), (1, .int (dz_i c)), (2, .int (dz_i 0)), (3, .int (dz_i 8)), (4, .int (dz_i (c - 256))), (5, .int (dz_i 0))]) x.1 d_JL1_indexOfChar_5 hN (by decide) rfl ?_
    refine dz_iload x.1 5 d_JL1_indexOfChar_7 rfl ?_
    refine dz_iload_n x.1 3 d_JL1_indexOfChar_9 rfl rfl ?_
    refine dz_icmp_ge (tgt := 31) x.1 d_JL1_indexOfChar_10 (by decide) (by omega) (by omega) (fun hc1 => by exfalso; omega) (fun hc1 => ?_)
    refine dz_aload_n x.1 0 d_JL1_indexOfChar_13 rfl rfl ?_
    refine dz_iload x.1 5 d_JL1_indexOfChar_14 rfl ?_
    refine ly_tbl (i := 1) (w := 46) x (by decide) (by decide) (by decide) d_JL1_indexOfChar_16 ?_
    refine dz_iload x.1 4 d_JL1_indexOfChar_17 rfl ?_
    refine dz_icmp_ne (tgt := 25) x.1 d_JL1_indexOfChar_19 (by decide) (by omega) (by omega) (fun hc2 => ?_) (fun hc2 => ?_)
    · refine dz_iinc (z := 1) (ls' := [(0, .ref (Dt (200 + 1))), (1, .int (dz_i c)), (2, .int (dz_i 0)), (3, .int (dz_i 8)), (4, .int (dz_i (c - 256))), (5, .int (dz_i 1))]) x.1 5 d_JL1_indexOfChar_25 rfl hN (by decide) (by omega) rfl ?_
      refine dz_goto (tgt := 7) x.1 d_JL1_indexOfChar_28 (by decide) ?_
      refine dz_iload x.1 5 d_JL1_indexOfChar_7 rfl ?_
      refine dz_iload_n x.1 3 d_JL1_indexOfChar_9 rfl rfl ?_
      refine dz_icmp_ge (tgt := 31) x.1 d_JL1_indexOfChar_10 (by decide) (by omega) (by omega) (fun hc3 => by exfalso; omega) (fun hc3 => ?_)
      refine dz_aload_n x.1 0 d_JL1_indexOfChar_13 rfl rfl ?_
      refine dz_iload x.1 5 d_JL1_indexOfChar_14 rfl ?_
      refine ly_tbl (i := 1) (w := 44) x (by decide) (by decide) (by decide) d_JL1_indexOfChar_16 ?_
      refine dz_iload x.1 4 d_JL1_indexOfChar_17 rfl ?_
      refine dz_icmp_ne (tgt := 25) x.1 d_JL1_indexOfChar_19 (by decide) (by omega) (by omega) (fun hc4 => ?_) (fun hc4 => ?_)
      · refine dz_iinc (z := 2) (ls' := [(0, .ref (Dt (200 + 1))), (1, .int (dz_i c)), (2, .int (dz_i 0)), (3, .int (dz_i 8)), (4, .int (dz_i (c - 256))), (5, .int (dz_i 2))]) x.1 5 d_JL1_indexOfChar_25 rfl hN (by decide) (by omega) rfl ?_
        refine dz_goto (tgt := 7) x.1 d_JL1_indexOfChar_28 (by decide) ?_
        refine dz_iload x.1 5 d_JL1_indexOfChar_7 rfl ?_
        refine dz_iload_n x.1 3 d_JL1_indexOfChar_9 rfl rfl ?_
        refine dz_icmp_ge (tgt := 31) x.1 d_JL1_indexOfChar_10 (by decide) (by omega) (by omega) (fun hc5 => by exfalso; omega) (fun hc5 => ?_)
        refine dz_aload_n x.1 0 d_JL1_indexOfChar_13 rfl rfl ?_
        refine dz_iload x.1 5 d_JL1_indexOfChar_14 rfl ?_
        refine ly_tbl (i := 1) (w := 59) x (by decide) (by decide) (by decide) d_JL1_indexOfChar_16 ?_
        refine dz_iload x.1 4 d_JL1_indexOfChar_17 rfl ?_
        refine dz_icmp_ne (tgt := 25) x.1 d_JL1_indexOfChar_19 (by decide) (by omega) (by omega) (fun hc6 => ?_) (fun hc6 => ?_)
        · refine dz_iinc (z := 3) (ls' := [(0, .ref (Dt (200 + 1))), (1, .int (dz_i c)), (2, .int (dz_i 0)), (3, .int (dz_i 8)), (4, .int (dz_i (c - 256))), (5, .int (dz_i 3))]) x.1 5 d_JL1_indexOfChar_25 rfl hN (by decide) (by omega) rfl ?_
          refine dz_goto (tgt := 7) x.1 d_JL1_indexOfChar_28 (by decide) ?_
          refine dz_iload x.1 5 d_JL1_indexOfChar_7 rfl ?_
          refine dz_iload_n x.1 3 d_JL1_indexOfChar_9 rfl rfl ?_
          refine dz_icmp_ge (tgt := 31) x.1 d_JL1_indexOfChar_10 (by decide) (by omega) (by omega) (fun hc7 => by exfalso; omega) (fun hc7 => ?_)
          refine dz_aload_n x.1 0 d_JL1_indexOfChar_13 rfl rfl ?_
          refine dz_iload x.1 5 d_JL1_indexOfChar_14 rfl ?_
          refine ly_tbl (i := 1) (w := 58) x (by decide) (by decide) (by decide) d_JL1_indexOfChar_16 ?_
          refine dz_iload x.1 4 d_JL1_indexOfChar_17 rfl ?_
          refine dz_icmp_ne (tgt := 25) x.1 d_JL1_indexOfChar_19 (by decide) (by omega) (by omega) (fun hc8 => ?_) (fun hc8 => ?_)
          · refine dz_iinc (z := 4) (ls' := [(0, .ref (Dt (200 + 1))), (1, .int (dz_i c)), (2, .int (dz_i 0)), (3, .int (dz_i 8)), (4, .int (dz_i (c - 256))), (5, .int (dz_i 4))]) x.1 5 d_JL1_indexOfChar_25 rfl hN (by decide) (by omega) rfl ?_
            refine dz_goto (tgt := 7) x.1 d_JL1_indexOfChar_28 (by decide) ?_
            refine dz_iload x.1 5 d_JL1_indexOfChar_7 rfl ?_
            refine dz_iload_n x.1 3 d_JL1_indexOfChar_9 rfl rfl ?_
            refine dz_icmp_ge (tgt := 31) x.1 d_JL1_indexOfChar_10 (by decide) (by omega) (by omega) (fun hc9 => by exfalso; omega) (fun hc9 => ?_)
            refine dz_aload_n x.1 0 d_JL1_indexOfChar_13 rfl rfl ?_
            refine dz_iload x.1 5 d_JL1_indexOfChar_14 rfl ?_
            refine ly_tbl (i := 1) (w := 63) x (by decide) (by decide) (by decide) d_JL1_indexOfChar_16 ?_
            refine dz_iload x.1 4 d_JL1_indexOfChar_17 rfl ?_
            refine dz_icmp_ne (tgt := 25) x.1 d_JL1_indexOfChar_19 (by decide) (by omega) (by omega) (fun hc10 => ?_) (fun hc10 => ?_)
            · refine dz_iinc (z := 5) (ls' := [(0, .ref (Dt (200 + 1))), (1, .int (dz_i c)), (2, .int (dz_i 0)), (3, .int (dz_i 8)), (4, .int (dz_i (c - 256))), (5, .int (dz_i 5))]) x.1 5 d_JL1_indexOfChar_25 rfl hN (by decide) (by omega) rfl ?_
              refine dz_goto (tgt := 7) x.1 d_JL1_indexOfChar_28 (by decide) ?_
              refine dz_iload x.1 5 d_JL1_indexOfChar_7 rfl ?_
              refine dz_iload_n x.1 3 d_JL1_indexOfChar_9 rfl rfl ?_
              refine dz_icmp_ge (tgt := 31) x.1 d_JL1_indexOfChar_10 (by decide) (by omega) (by omega) (fun hc11 => by exfalso; omega) (fun hc11 => ?_)
              refine dz_aload_n x.1 0 d_JL1_indexOfChar_13 rfl rfl ?_
              refine dz_iload x.1 5 d_JL1_indexOfChar_14 rfl ?_
              refine ly_tbl (i := 1) (w := 33) x (by decide) (by decide) (by decide) d_JL1_indexOfChar_16 ?_
              refine dz_iload x.1 4 d_JL1_indexOfChar_17 rfl ?_
              refine dz_icmp_ne (tgt := 25) x.1 d_JL1_indexOfChar_19 (by decide) (by omega) (by omega) (fun hc12 => ?_) (fun hc12 => ?_)
              · refine dz_iinc (z := 6) (ls' := [(0, .ref (Dt (200 + 1))), (1, .int (dz_i c)), (2, .int (dz_i 0)), (3, .int (dz_i 8)), (4, .int (dz_i (c - 256))), (5, .int (dz_i 6))]) x.1 5 d_JL1_indexOfChar_25 rfl hN (by decide) (by omega) rfl ?_
                refine dz_goto (tgt := 7) x.1 d_JL1_indexOfChar_28 (by decide) ?_
                refine dz_iload x.1 5 d_JL1_indexOfChar_7 rfl ?_
                refine dz_iload_n x.1 3 d_JL1_indexOfChar_9 rfl rfl ?_
                refine dz_icmp_ge (tgt := 31) x.1 d_JL1_indexOfChar_10 (by decide) (by omega) (by omega) (fun hc13 => by exfalso; omega) (fun hc13 => ?_)
                refine dz_aload_n x.1 0 d_JL1_indexOfChar_13 rfl rfl ?_
                refine dz_iload x.1 5 d_JL1_indexOfChar_14 rfl ?_
                refine ly_tbl (i := 1) (w := 45) x (by decide) (by decide) (by decide) d_JL1_indexOfChar_16 ?_
                refine dz_iload x.1 4 d_JL1_indexOfChar_17 rfl ?_
                refine dz_icmp_ne (tgt := 25) x.1 d_JL1_indexOfChar_19 (by decide) (by omega) (by omega) (fun hc14 => ?_) (fun hc14 => ?_)
                · refine dz_iinc (z := 7) (ls' := [(0, .ref (Dt (200 + 1))), (1, .int (dz_i c)), (2, .int (dz_i 0)), (3, .int (dz_i 8)), (4, .int (dz_i (c - 256))), (5, .int (dz_i 7))]) x.1 5 d_JL1_indexOfChar_25 rfl hN (by decide) (by omega) rfl ?_
                  refine dz_goto (tgt := 7) x.1 d_JL1_indexOfChar_28 (by decide) ?_
                  refine dz_iload x.1 5 d_JL1_indexOfChar_7 rfl ?_
                  refine dz_iload_n x.1 3 d_JL1_indexOfChar_9 rfl rfl ?_
                  refine dz_icmp_ge (tgt := 31) x.1 d_JL1_indexOfChar_10 (by decide) (by omega) (by omega) (fun hc15 => by exfalso; omega) (fun hc15 => ?_)
                  refine dz_aload_n x.1 0 d_JL1_indexOfChar_13 rfl rfl ?_
                  refine dz_iload x.1 5 d_JL1_indexOfChar_14 rfl ?_
                  refine ly_tbl (i := 1) (w := 39) x (by decide) (by decide) (by decide) d_JL1_indexOfChar_16 ?_
                  refine dz_iload x.1 4 d_JL1_indexOfChar_17 rfl ?_
                  refine dz_icmp_ne (tgt := 25) x.1 d_JL1_indexOfChar_19 (by decide) (by omega) (by omega) (fun hc16 => ?_) (fun hc16 => ?_)
                  · refine dz_iinc (z := 8) (ls' := [(0, .ref (Dt (200 + 1))), (1, .int (dz_i c)), (2, .int (dz_i 0)), (3, .int (dz_i 8)), (4, .int (dz_i (c - 256))), (5, .int (dz_i 8))]) x.1 5 d_JL1_indexOfChar_25 rfl hN (by decide) (by omega) rfl ?_
                    refine dz_goto (tgt := 7) x.1 d_JL1_indexOfChar_28 (by decide) ?_
                    refine dz_iload x.1 5 d_JL1_indexOfChar_7 rfl ?_
                    refine dz_iload_n x.1 3 d_JL1_indexOfChar_9 rfl rfl ?_
                    refine dz_icmp_ge (tgt := 31) x.1 d_JL1_indexOfChar_10 (by decide) (by omega) (by omega) (fun hc17 => ?_) (fun hc17 => by exfalso; omega)
                    refine dz_iconst x.1 d_JL1_indexOfChar_31 ?_
                    exact ly_iret x d_JL1_indexOfChar_32 rfl ⟨by rw [sp_ixn1 (by omega)], rfl⟩
                  · refine dz_iload x.1 5 d_JL1_indexOfChar_22 rfl ?_
                    exact ly_iret x d_JL1_indexOfChar_24 rfl ⟨sp_f (k := 39) (by omega) rfl, rfl⟩
                · refine dz_iload x.1 5 d_JL1_indexOfChar_22 rfl ?_
                  exact ly_iret x d_JL1_indexOfChar_24 rfl ⟨sp_f (k := 45) (by omega) rfl, rfl⟩
              · refine dz_iload x.1 5 d_JL1_indexOfChar_22 rfl ?_
                exact ly_iret x d_JL1_indexOfChar_24 rfl ⟨sp_f (k := 33) (by omega) rfl, rfl⟩
            · refine dz_iload x.1 5 d_JL1_indexOfChar_22 rfl ?_
              exact ly_iret x d_JL1_indexOfChar_24 rfl ⟨sp_f (k := 63) (by omega) rfl, rfl⟩
          · refine dz_iload x.1 5 d_JL1_indexOfChar_22 rfl ?_
            exact ly_iret x d_JL1_indexOfChar_24 rfl ⟨sp_f (k := 58) (by omega) rfl, rfl⟩
        · refine dz_iload x.1 5 d_JL1_indexOfChar_22 rfl ?_
          exact ly_iret x d_JL1_indexOfChar_24 rfl ⟨sp_f (k := 59) (by omega) rfl, rfl⟩
      · refine dz_iload x.1 5 d_JL1_indexOfChar_22 rfl ?_
        exact ly_iret x d_JL1_indexOfChar_24 rfl ⟨sp_f (k := 44) (by omega) rfl, rfl⟩
    · refine dz_iload x.1 5 d_JL1_indexOfChar_22 rfl ?_
      exact ly_iret x d_JL1_indexOfChar_24 rfl ⟨sp_f (k := 46) (by omega) rfl, rfl⟩
set_option maxRecDepth 100000 in
set_option maxHeartbeats 4000000 in
theorem c_JStr_isLatin1_0 (l : Launch) (D : va_G) (Dt : Nat → ClassId) (b sz : Nat) (I : dz_Hp)  : ly_M l D Dt b sz y_JStr_isLatin1 b_JStr_isLatin1 1 (some .boolean) 1 [.ref (Dt (100 + 0))] I (fun v I' => v = some (.int (dz_i 1)) ∧ I' = I) := by
  refine ly_enter R_JStr (by decide) rfl (Nat.le_of_ble_eq_true rfl) (ly_cat _ 0 rfl) (fun κ x => ?_)
  have hN := ly_N x
  show ly_V κ b sz I 0 [(0, .ref (Dt (100 + 0)))] []
  refine ly_getsC x sl_JStr_38 d_JStr_isLatin1_0 ?_
  refine dz_if_eq (tgt := 17) x.1 d_JStr_isLatin1_3 (by decide) (by omega) (fun hc1 => by exfalso; omega) (fun hc1 => ?_)
  refine dz_aload_n x.1 0 d_JStr_isLatin1_6 rfl rfl ?_
  refine ly_gfc (i := 0) x (by decide) sl_JStr_15 d_JStr_isLatin1_7 ?_
  refine dz_if_ne (tgt := 17) x.1 d_JStr_isLatin1_10 (by decide) (by omega) (fun hc2 => by exfalso; omega) (fun hc2 => ?_)
  refine dz_iconst x.1 d_JStr_isLatin1_13 ?_
  refine dz_goto (tgt := 18) x.1 d_JStr_isLatin1_14 (by decide) ?_
  exact ly_iret x d_JStr_isLatin1_18 (dz_nbo (by omega)) ⟨rfl, rfl⟩
set_option maxRecDepth 100000 in
set_option maxHeartbeats 4000000 in
theorem c_JStr_coder_0 (l : Launch) (D : va_G) (Dt : Nat → ClassId) (b sz : Nat) (I : dz_Hp)  : ly_M l D Dt b sz y_JStr_coder b_JStr_coder 1 (some .byte) 1 [.ref (Dt (100 + 0))] I (fun v I' => v = some (.int (dz_i 0)) ∧ I' = I) := by
  refine ly_enter R_JStr (by decide) rfl (Nat.le_of_ble_eq_true rfl) (ly_cat _ 0 rfl) (fun κ x => ?_)
  have hN := ly_N x
  show ly_V κ b sz I 0 [(0, .ref (Dt (100 + 0)))] []
  refine ly_getsC x sl_JStr_38 d_JStr_coder_0 ?_
  refine dz_if_eq (tgt := 13) x.1 d_JStr_coder_3 (by decide) (by omega) (fun hc1 => by exfalso; omega) (fun hc1 => ?_)
  refine dz_aload_n x.1 0 d_JStr_coder_6 rfl rfl ?_
  refine ly_gfc (i := 0) x (by decide) sl_JStr_15 d_JStr_coder_7 ?_
  refine dz_goto (tgt := 14) x.1 d_JStr_coder_10 (by decide) ?_
  exact ly_iret x d_JStr_coder_14 (by decide) ⟨rfl, rfl⟩
set_option maxRecDepth 100000 in
set_option maxHeartbeats 4000000 in
theorem c_JStr_length_0 (l : Launch) (D : va_G) (Dt : Nat → ClassId) (b sz : Nat) (I : dz_Hp)  : ly_M l D Dt b sz y_JStr_length b_JStr_length 1 (some .int) 2 [.ref (Dt (100 + 0))] I (fun v I' => v = some (.int (dz_i 5)) ∧ I' = I) := by
  refine ly_enter R_JStr (by decide) rfl (Nat.le_of_ble_eq_true rfl) (ly_cat _ 0 rfl) (fun κ x => ?_)
  have hN := ly_N x
  show ly_V κ b sz I 0 [(0, .ref (Dt (100 + 0)))] []
  refine dz_aload_n x.1 0 d_JStr_length_0 rfl rfl ?_
  refine ly_gfv (i := 0) x (by decide) sl_JStr_9 d_JStr_length_1 ?_
  refine ly_tbn (i := 0) (w := 5) x (by decide) (by decide) d_JStr_length_4 ?_
  refine dz_aload_n x.1 0 d_JStr_length_5 rfl rfl ?_
  refine ly_callT (i := 0) (rest := [.int (dz_i 5)]) x cl_JStr_335 (by decide) (c_JStr_coder_0 l D Dt b sz I) (by decide) rfl rfl rfl (Nat.le_of_ble_eq_true rfl) d_JStr_length_6 (fun v I' hp1 => ?_)
  obtain ⟨rfl, hp1I⟩ := hp1
  have hp1I := hp1I.symm
  subst hp1I
  show ly_V κ b sz I 9 [(0, .ref (Dt (100 + 0)))] [.int (dz_i 0), .int (dz_i 5)]
  refine ly_ishr x d_JStr_length_9 ?_
  exact ly_iret x d_JStr_length_10 rfl ⟨rfl, rfl⟩
set_option maxRecDepth 100000 in
set_option maxHeartbeats 4000000 in
theorem c_JL1_indexOf_0 (l : Launch) (D : va_G) (Dt : Nat → ClassId) (b sz : Nat) (I : dz_Hp) (c : Int) (hc : 0 ≤ c ∧ c < 65536) : ly_M l D Dt b sz y_JL1_indexOf b_JL1_indexOf 4 (some .int) 2 [.ref (Dt (200 + 0)), .int (dz_i c), .int (dz_i 0), .int (dz_i 5)] I (fun v I' => v = some (.int (dz_i (sp_ix 0 c))) ∧ I' = I) := by
  refine ly_enter R_JL1 (by decide) rfl (Nat.le_of_ble_eq_true rfl) (ly_cat _ 0 rfl) (fun κ x => ?_)
  have hN := ly_N x
  show ly_V κ b sz I 0 [(0, .ref (Dt (200 + 0))), (1, .int (dz_i c)), (2, .int (dz_i 0)), (3, .int (dz_i 5))] []
  by_cases h8 : c ≤ 255
  · refine dz_iload_n x.1 1 d_JL1_indexOf_0 rfl rfl ?_
    refine ly_callS (rest := []) x cl_JL1_88 (c_JL1_canEncode l D Dt b sz I c hc) (by decide) rfl rfl (Nat.le_of_ble_eq_true rfl) d_JL1_indexOf_1 (fun v I' hp1 => ?_)
    obtain ⟨rfl, hp1I⟩ := hp1
    have hp1I := hp1I.symm
    subst hp1I
    rw [if_pos h8]
    show ly_V κ b sz I 4 [(0, .ref (Dt (200 + 0))), (1, .int (dz_i c)), (2, .int (dz_i 0)), (3, .int (dz_i 5))] [.int (dz_i 1)]
    refine dz_if_ne (tgt := 9) x.1 d_JL1_indexOf_4 (by decide) (by omega) (fun hc2 => ?_) (fun hc2 => by exfalso; omega)
    refine dz_iload_n x.1 2 d_JL1_indexOf_9 rfl rfl ?_
    refine dz_iconst x.1 d_JL1_indexOf_10 ?_
    refine ly_max (u := 0) x ml_JL1_92 (by decide) (Nat.le_of_ble_eq_true rfl) (by omega) (by omega) (by decide) d_JL1_indexOf_11 ?_
    refine dz_istore_n (ls' := [(0, .ref (Dt (200 + 0))), (1, .int (dz_i c)), (2, .int (dz_i 0)), (3, .int (dz_i 5))]) x.1 d_JL1_indexOf_14 rfl hN (by decide) rfl ?_
    refine dz_iload_n x.1 3 d_JL1_indexOf_15 rfl rfl ?_
    refine dz_aload_n x.1 0 d_JL1_indexOf_16 rfl rfl ?_
    refine ly_tbn (i := 0) (w := 5) x (by decide) (by decide) d_JL1_indexOf_17 ?_
    refine ly_min (u := 5) x ml_JL1_38 (by decide) (Nat.le_of_ble_eq_true rfl) (by omega) (by omega) (by decide) d_JL1_indexOf_18 ?_
    refine dz_istore_n (ls' := [(0, .ref (Dt (200 + 0))), (1, .int (dz_i c)), (2, .int (dz_i 0)), (3, .int (dz_i 5))]) x.1 d_JL1_indexOf_21 rfl hN (by decide) rfl ?_
    refine dz_iload_n x.1 2 d_JL1_indexOf_22 rfl rfl ?_
    refine dz_iload_n x.1 3 d_JL1_indexOf_23 rfl rfl ?_
    refine dz_icmp_lt (tgt := 29) x.1 d_JL1_indexOf_24 (by decide) (by omega) (by omega) (fun hc3 => ?_) (fun hc3 => by exfalso; omega)
    refine dz_aload_n x.1 0 d_JL1_indexOf_29 rfl rfl ?_
    refine dz_iload_n x.1 1 d_JL1_indexOf_30 rfl rfl ?_
    refine dz_iload_n x.1 2 d_JL1_indexOf_31 rfl rfl ?_
    refine dz_iload_n x.1 3 d_JL1_indexOf_32 rfl rfl ?_
    refine ly_callS (rest := []) x cl_JL1_95 (c_JL1_indexOfChar_0 l D Dt b sz I c (by omega)) (by decide) rfl rfl (Nat.le_of_ble_eq_true rfl) d_JL1_indexOf_33 (fun v I' hp4 => ?_)
    obtain ⟨rfl, hp4I⟩ := hp4
    have hp4I := hp4I.symm
    subst hp4I
    show ly_V κ b sz I 36 [(0, .ref (Dt (200 + 0))), (1, .int (dz_i c)), (2, .int (dz_i 0)), (3, .int (dz_i 5))] [.int (dz_i (sp_ix 0 c))]
    exact ly_iret x d_JL1_indexOf_36 rfl ⟨rfl, rfl⟩
  · refine dz_iload_n x.1 1 d_JL1_indexOf_0 rfl rfl ?_
    refine ly_callS (rest := []) x cl_JL1_88 (c_JL1_canEncode l D Dt b sz I c hc) (by decide) rfl rfl (Nat.le_of_ble_eq_true rfl) d_JL1_indexOf_1 (fun v I' hp1 => ?_)
    obtain ⟨rfl, hp1I⟩ := hp1
    have hp1I := hp1I.symm
    subst hp1I
    rw [if_neg h8]
    show ly_V κ b sz I 4 [(0, .ref (Dt (200 + 0))), (1, .int (dz_i c)), (2, .int (dz_i 0)), (3, .int (dz_i 5))] [.int (dz_i 0)]
    refine dz_if_ne (tgt := 9) x.1 d_JL1_indexOf_4 (by decide) (by omega) (fun hc2 => by exfalso; omega) (fun hc2 => ?_)
    refine dz_iconst x.1 d_JL1_indexOf_7 ?_
    exact ly_iret x d_JL1_indexOf_8 rfl ⟨by rw [sp_ixn0 (by omega)], rfl⟩
set_option maxRecDepth 100000 in
set_option maxHeartbeats 4000000 in
theorem c_JStr_indexOf2_0 (l : Launch) (D : va_G) (Dt : Nat → ClassId) (b sz : Nat) (I : dz_Hp) (c : Int) (hc : 0 ≤ c ∧ c < 65536) : ly_M l D Dt b sz y_JStr_indexOf2 b_JStr_indexOf2 3 (some .int) 3 [.ref (Dt (100 + 0)), .int (dz_i c), .int (dz_i 0)] I (fun v I' => v = some (.int (dz_i (sp_ix 0 c))) ∧ I' = I) := by
  refine ly_enter R_JStr (by decide) rfl (Nat.le_of_ble_eq_true rfl) (ly_cat _ 0 rfl) (fun κ x => ?_)
  have hN := ly_N x
  show ly_V κ b sz I 0 [(0, .ref (Dt (100 + 0))), (1, .int (dz_i c)), (2, .int (dz_i 0))] []
  refine dz_aload_n x.1 0 d_JStr_indexOf2_0 rfl rfl ?_
  refine ly_callT (i := 0) (rest := []) x cl_JStr_492 (by decide) (c_JStr_isLatin1_0 l D Dt b sz I) (by decide) rfl rfl rfl (Nat.le_of_ble_eq_true rfl) d_JStr_indexOf2_1 (fun v I' hp1 => ?_)
  obtain ⟨rfl, hp1I⟩ := hp1
  have hp1I := hp1I.symm
  subst hp1I
  show ly_V κ b sz I 4 [(0, .ref (Dt (100 + 0))), (1, .int (dz_i c)), (2, .int (dz_i 0))] [.int (dz_i 1)]
  refine dz_if_eq (tgt := 23) x.1 d_JStr_indexOf2_4 (by decide) (by omega) (fun hc2 => by exfalso; omega) (fun hc2 => ?_)
  refine dz_aload_n x.1 0 d_JStr_indexOf2_7 rfl rfl ?_
  refine ly_gfv (i := 0) x (by decide) sl_JStr_9 d_JStr_indexOf2_8 ?_
  refine dz_iload_n x.1 1 d_JStr_indexOf2_11 rfl rfl ?_
  refine dz_iload_n x.1 2 d_JStr_indexOf2_12 rfl rfl ?_
  refine dz_aload_n x.1 0 d_JStr_indexOf2_13 rfl rfl ?_
  refine ly_callT (i := 0) (rest := [.int (dz_i 0), .int (dz_i c), .ref (Dt (200 + 0))]) x cl_JStr_505 (by decide) (c_JStr_length_0 l D Dt b sz I) (by decide) rfl rfl rfl (Nat.le_of_ble_eq_true rfl) d_JStr_indexOf2_14 (fun v I' hp3 => ?_)
  obtain ⟨rfl, hp3I⟩ := hp3
  have hp3I := hp3I.symm
  subst hp3I
  show ly_V κ b sz I 17 [(0, .ref (Dt (100 + 0))), (1, .int (dz_i c)), (2, .int (dz_i 0))] [.int (dz_i 5), .int (dz_i 0), .int (dz_i c), .ref (Dt (200 + 0))]
  refine ly_callS (rest := []) x cl_JStr_637 (c_JL1_indexOf_0 l D Dt b sz I c hc) (by decide) rfl rfl (Nat.le_of_ble_eq_true rfl) d_JStr_indexOf2_17 (fun v I' hp4 => ?_)
  obtain ⟨rfl, hp4I⟩ := hp4
  have hp4I := hp4I.symm
  subst hp4I
  show ly_V κ b sz I 20 [(0, .ref (Dt (100 + 0))), (1, .int (dz_i c)), (2, .int (dz_i 0))] [.int (dz_i (sp_ix 0 c))]
  refine dz_goto (tgt := 36) x.1 d_JStr_indexOf2_20 (by decide) ?_
  exact ly_iret x d_JStr_indexOf2_36 rfl ⟨rfl, rfl⟩
set_option maxRecDepth 100000 in
set_option maxHeartbeats 4000000 in
theorem c_JStr_indexOf_0 (l : Launch) (D : va_G) (Dt : Nat → ClassId) (b sz : Nat) (I : dz_Hp) (c : Int) (hc : 0 ≤ c ∧ c < 65536) : ly_M l D Dt b sz y_JStr_indexOf b_JStr_indexOf 2 (some .int) 4 [.ref (Dt (100 + 0)), .int (dz_i c)] I (fun v I' => v = some (.int (dz_i (sp_ix 0 c))) ∧ I' = I) := by
  refine ly_enter R_JStr (by decide) rfl (Nat.le_of_ble_eq_true rfl) (ly_cat _ 0 rfl) (fun κ x => ?_)
  have hN := ly_N x
  show ly_V κ b sz I 0 [(0, .ref (Dt (100 + 0))), (1, .int (dz_i c))] []
  refine dz_aload_n x.1 0 d_JStr_indexOf_0 rfl rfl ?_
  refine dz_iload_n x.1 1 d_JStr_indexOf_1 rfl rfl ?_
  refine dz_iconst x.1 d_JStr_indexOf_2 ?_
  refine ly_callT (i := 0) (rest := []) x cl_JStr_633 (by decide) (c_JStr_indexOf2_0 l D Dt b sz I c hc) (by decide) rfl rfl rfl (Nat.le_of_ble_eq_true rfl) d_JStr_indexOf_3 (fun v I' hp1 => ?_)
  obtain ⟨rfl, hp1I⟩ := hp1
  have hp1I := hp1I.symm
  subst hp1I
  show ly_V κ b sz I 6 [(0, .ref (Dt (100 + 0))), (1, .int (dz_i c))] [.int (dz_i (sp_ix 0 c))]
  exact ly_iret x d_JStr_indexOf_6 rfl ⟨rfl, rfl⟩
set_option maxRecDepth 100000 in
set_option maxHeartbeats 4000000 in
theorem c_JStr_isLatin1_1 (l : Launch) (D : va_G) (Dt : Nat → ClassId) (b sz : Nat) (I : dz_Hp)  : ly_M l D Dt b sz y_JStr_isLatin1 b_JStr_isLatin1 1 (some .boolean) 1 [.ref (Dt (100 + 1))] I (fun v I' => v = some (.int (dz_i 1)) ∧ I' = I) := by
  refine ly_enter R_JStr (by decide) rfl (Nat.le_of_ble_eq_true rfl) (ly_cat _ 0 rfl) (fun κ x => ?_)
  have hN := ly_N x
  show ly_V κ b sz I 0 [(0, .ref (Dt (100 + 1)))] []
  refine ly_getsC x sl_JStr_38 d_JStr_isLatin1_0 ?_
  refine dz_if_eq (tgt := 17) x.1 d_JStr_isLatin1_3 (by decide) (by omega) (fun hc1 => by exfalso; omega) (fun hc1 => ?_)
  refine dz_aload_n x.1 0 d_JStr_isLatin1_6 rfl rfl ?_
  refine ly_gfc (i := 1) x (by decide) sl_JStr_15 d_JStr_isLatin1_7 ?_
  refine dz_if_ne (tgt := 17) x.1 d_JStr_isLatin1_10 (by decide) (by omega) (fun hc2 => by exfalso; omega) (fun hc2 => ?_)
  refine dz_iconst x.1 d_JStr_isLatin1_13 ?_
  refine dz_goto (tgt := 18) x.1 d_JStr_isLatin1_14 (by decide) ?_
  exact ly_iret x d_JStr_isLatin1_18 (dz_nbo (by omega)) ⟨rfl, rfl⟩
set_option maxRecDepth 100000 in
set_option maxHeartbeats 4000000 in
theorem c_JStr_coder_1 (l : Launch) (D : va_G) (Dt : Nat → ClassId) (b sz : Nat) (I : dz_Hp)  : ly_M l D Dt b sz y_JStr_coder b_JStr_coder 1 (some .byte) 1 [.ref (Dt (100 + 1))] I (fun v I' => v = some (.int (dz_i 0)) ∧ I' = I) := by
  refine ly_enter R_JStr (by decide) rfl (Nat.le_of_ble_eq_true rfl) (ly_cat _ 0 rfl) (fun κ x => ?_)
  have hN := ly_N x
  show ly_V κ b sz I 0 [(0, .ref (Dt (100 + 1)))] []
  refine ly_getsC x sl_JStr_38 d_JStr_coder_0 ?_
  refine dz_if_eq (tgt := 13) x.1 d_JStr_coder_3 (by decide) (by omega) (fun hc1 => by exfalso; omega) (fun hc1 => ?_)
  refine dz_aload_n x.1 0 d_JStr_coder_6 rfl rfl ?_
  refine ly_gfc (i := 1) x (by decide) sl_JStr_15 d_JStr_coder_7 ?_
  refine dz_goto (tgt := 14) x.1 d_JStr_coder_10 (by decide) ?_
  exact ly_iret x d_JStr_coder_14 (by decide) ⟨rfl, rfl⟩
set_option maxRecDepth 100000 in
set_option maxHeartbeats 4000000 in
theorem c_JStr_length_1 (l : Launch) (D : va_G) (Dt : Nat → ClassId) (b sz : Nat) (I : dz_Hp)  : ly_M l D Dt b sz y_JStr_length b_JStr_length 1 (some .int) 2 [.ref (Dt (100 + 1))] I (fun v I' => v = some (.int (dz_i 8)) ∧ I' = I) := by
  refine ly_enter R_JStr (by decide) rfl (Nat.le_of_ble_eq_true rfl) (ly_cat _ 0 rfl) (fun κ x => ?_)
  have hN := ly_N x
  show ly_V κ b sz I 0 [(0, .ref (Dt (100 + 1)))] []
  refine dz_aload_n x.1 0 d_JStr_length_0 rfl rfl ?_
  refine ly_gfv (i := 1) x (by decide) sl_JStr_9 d_JStr_length_1 ?_
  refine ly_tbn (i := 1) (w := 8) x (by decide) (by decide) d_JStr_length_4 ?_
  refine dz_aload_n x.1 0 d_JStr_length_5 rfl rfl ?_
  refine ly_callT (i := 1) (rest := [.int (dz_i 8)]) x cl_JStr_335 (by decide) (c_JStr_coder_1 l D Dt b sz I) (by decide) rfl rfl rfl (Nat.le_of_ble_eq_true rfl) d_JStr_length_6 (fun v I' hp1 => ?_)
  obtain ⟨rfl, hp1I⟩ := hp1
  have hp1I := hp1I.symm
  subst hp1I
  show ly_V κ b sz I 9 [(0, .ref (Dt (100 + 1)))] [.int (dz_i 0), .int (dz_i 8)]
  refine ly_ishr x d_JStr_length_9 ?_
  exact ly_iret x d_JStr_length_10 rfl ⟨rfl, rfl⟩
set_option maxRecDepth 100000 in
set_option maxHeartbeats 4000000 in
theorem c_JL1_indexOf_1 (l : Launch) (D : va_G) (Dt : Nat → ClassId) (b sz : Nat) (I : dz_Hp) (c : Int) (hc : 0 ≤ c ∧ c < 65536) : ly_M l D Dt b sz y_JL1_indexOf b_JL1_indexOf 4 (some .int) 2 [.ref (Dt (200 + 1)), .int (dz_i c), .int (dz_i 0), .int (dz_i 8)] I (fun v I' => v = some (.int (dz_i (sp_ix 1 c))) ∧ I' = I) := by
  refine ly_enter R_JL1 (by decide) rfl (Nat.le_of_ble_eq_true rfl) (ly_cat _ 0 rfl) (fun κ x => ?_)
  have hN := ly_N x
  show ly_V κ b sz I 0 [(0, .ref (Dt (200 + 1))), (1, .int (dz_i c)), (2, .int (dz_i 0)), (3, .int (dz_i 8))] []
  by_cases h8 : c ≤ 255
  · refine dz_iload_n x.1 1 d_JL1_indexOf_0 rfl rfl ?_
    refine ly_callS (rest := []) x cl_JL1_88 (c_JL1_canEncode l D Dt b sz I c hc) (by decide) rfl rfl (Nat.le_of_ble_eq_true rfl) d_JL1_indexOf_1 (fun v I' hp1 => ?_)
    obtain ⟨rfl, hp1I⟩ := hp1
    have hp1I := hp1I.symm
    subst hp1I
    rw [if_pos h8]
    show ly_V κ b sz I 4 [(0, .ref (Dt (200 + 1))), (1, .int (dz_i c)), (2, .int (dz_i 0)), (3, .int (dz_i 8))] [.int (dz_i 1)]
    refine dz_if_ne (tgt := 9) x.1 d_JL1_indexOf_4 (by decide) (by omega) (fun hc2 => ?_) (fun hc2 => by exfalso; omega)
    refine dz_iload_n x.1 2 d_JL1_indexOf_9 rfl rfl ?_
    refine dz_iconst x.1 d_JL1_indexOf_10 ?_
    refine ly_max (u := 0) x ml_JL1_92 (by decide) (Nat.le_of_ble_eq_true rfl) (by omega) (by omega) (by decide) d_JL1_indexOf_11 ?_
    refine dz_istore_n (ls' := [(0, .ref (Dt (200 + 1))), (1, .int (dz_i c)), (2, .int (dz_i 0)), (3, .int (dz_i 8))]) x.1 d_JL1_indexOf_14 rfl hN (by decide) rfl ?_
    refine dz_iload_n x.1 3 d_JL1_indexOf_15 rfl rfl ?_
    refine dz_aload_n x.1 0 d_JL1_indexOf_16 rfl rfl ?_
    refine ly_tbn (i := 1) (w := 8) x (by decide) (by decide) d_JL1_indexOf_17 ?_
    refine ly_min (u := 8) x ml_JL1_38 (by decide) (Nat.le_of_ble_eq_true rfl) (by omega) (by omega) (by decide) d_JL1_indexOf_18 ?_
    refine dz_istore_n (ls' := [(0, .ref (Dt (200 + 1))), (1, .int (dz_i c)), (2, .int (dz_i 0)), (3, .int (dz_i 8))]) x.1 d_JL1_indexOf_21 rfl hN (by decide) rfl ?_
    refine dz_iload_n x.1 2 d_JL1_indexOf_22 rfl rfl ?_
    refine dz_iload_n x.1 3 d_JL1_indexOf_23 rfl rfl ?_
    refine dz_icmp_lt (tgt := 29) x.1 d_JL1_indexOf_24 (by decide) (by omega) (by omega) (fun hc3 => ?_) (fun hc3 => by exfalso; omega)
    refine dz_aload_n x.1 0 d_JL1_indexOf_29 rfl rfl ?_
    refine dz_iload_n x.1 1 d_JL1_indexOf_30 rfl rfl ?_
    refine dz_iload_n x.1 2 d_JL1_indexOf_31 rfl rfl ?_
    refine dz_iload_n x.1 3 d_JL1_indexOf_32 rfl rfl ?_
    refine ly_callS (rest := []) x cl_JL1_95 (c_JL1_indexOfChar_1 l D Dt b sz I c (by omega)) (by decide) rfl rfl (Nat.le_of_ble_eq_true rfl) d_JL1_indexOf_33 (fun v I' hp4 => ?_)
    obtain ⟨rfl, hp4I⟩ := hp4
    have hp4I := hp4I.symm
    subst hp4I
    show ly_V κ b sz I 36 [(0, .ref (Dt (200 + 1))), (1, .int (dz_i c)), (2, .int (dz_i 0)), (3, .int (dz_i 8))] [.int (dz_i (sp_ix 1 c))]
    exact ly_iret x d_JL1_indexOf_36 rfl ⟨rfl, rfl⟩
  · refine dz_iload_n x.1 1 d_JL1_indexOf_0 rfl rfl ?_
    refine ly_callS (rest := []) x cl_JL1_88 (c_JL1_canEncode l D Dt b sz I c hc) (by decide) rfl rfl (Nat.le_of_ble_eq_true rfl) d_JL1_indexOf_1 (fun v I' hp1 => ?_)
    obtain ⟨rfl, hp1I⟩ := hp1
    have hp1I := hp1I.symm
    subst hp1I
    rw [if_neg h8]
    show ly_V κ b sz I 4 [(0, .ref (Dt (200 + 1))), (1, .int (dz_i c)), (2, .int (dz_i 0)), (3, .int (dz_i 8))] [.int (dz_i 0)]
    refine dz_if_ne (tgt := 9) x.1 d_JL1_indexOf_4 (by decide) (by omega) (fun hc2 => by exfalso; omega) (fun hc2 => ?_)
    refine dz_iconst x.1 d_JL1_indexOf_7 ?_
    exact ly_iret x d_JL1_indexOf_8 rfl ⟨by rw [sp_ixn1 (by omega)], rfl⟩
set_option maxRecDepth 100000 in
set_option maxHeartbeats 4000000 in
theorem c_JStr_indexOf2_1 (l : Launch) (D : va_G) (Dt : Nat → ClassId) (b sz : Nat) (I : dz_Hp) (c : Int) (hc : 0 ≤ c ∧ c < 65536) : ly_M l D Dt b sz y_JStr_indexOf2 b_JStr_indexOf2 3 (some .int) 3 [.ref (Dt (100 + 1)), .int (dz_i c), .int (dz_i 0)] I (fun v I' => v = some (.int (dz_i (sp_ix 1 c))) ∧ I' = I) := by
  refine ly_enter R_JStr (by decide) rfl (Nat.le_of_ble_eq_true rfl) (ly_cat _ 0 rfl) (fun κ x => ?_)
  have hN := ly_N x
  show ly_V κ b sz I 0 [(0, .ref (Dt (100 + 1))), (1, .int (dz_i c)), (2, .int (dz_i 0))] []
  refine dz_aload_n x.1 0 d_JStr_indexOf2_0 rfl rfl ?_
  refine ly_callT (i := 1) (rest := []) x cl_JStr_492 (by decide) (c_JStr_isLatin1_1 l D Dt b sz I) (by decide) rfl rfl rfl (Nat.le_of_ble_eq_true rfl) d_JStr_indexOf2_1 (fun v I' hp1 => ?_)
  obtain ⟨rfl, hp1I⟩ := hp1
  have hp1I := hp1I.symm
  subst hp1I
  show ly_V κ b sz I 4 [(0, .ref (Dt (100 + 1))), (1, .int (dz_i c)), (2, .int (dz_i 0))] [.int (dz_i 1)]
  refine dz_if_eq (tgt := 23) x.1 d_JStr_indexOf2_4 (by decide) (by omega) (fun hc2 => by exfalso; omega) (fun hc2 => ?_)
  refine dz_aload_n x.1 0 d_JStr_indexOf2_7 rfl rfl ?_
  refine ly_gfv (i := 1) x (by decide) sl_JStr_9 d_JStr_indexOf2_8 ?_
  refine dz_iload_n x.1 1 d_JStr_indexOf2_11 rfl rfl ?_
  refine dz_iload_n x.1 2 d_JStr_indexOf2_12 rfl rfl ?_
  refine dz_aload_n x.1 0 d_JStr_indexOf2_13 rfl rfl ?_
  refine ly_callT (i := 1) (rest := [.int (dz_i 0), .int (dz_i c), .ref (Dt (200 + 1))]) x cl_JStr_505 (by decide) (c_JStr_length_1 l D Dt b sz I) (by decide) rfl rfl rfl (Nat.le_of_ble_eq_true rfl) d_JStr_indexOf2_14 (fun v I' hp3 => ?_)
  obtain ⟨rfl, hp3I⟩ := hp3
  have hp3I := hp3I.symm
  subst hp3I
  show ly_V κ b sz I 17 [(0, .ref (Dt (100 + 1))), (1, .int (dz_i c)), (2, .int (dz_i 0))] [.int (dz_i 8), .int (dz_i 0), .int (dz_i c), .ref (Dt (200 + 1))]
  refine ly_callS (rest := []) x cl_JStr_637 (c_JL1_indexOf_1 l D Dt b sz I c hc) (by decide) rfl rfl (Nat.le_of_ble_eq_true rfl) d_JStr_indexOf2_17 (fun v I' hp4 => ?_)
  obtain ⟨rfl, hp4I⟩ := hp4
  have hp4I := hp4I.symm
  subst hp4I
  show ly_V κ b sz I 20 [(0, .ref (Dt (100 + 1))), (1, .int (dz_i c)), (2, .int (dz_i 0))] [.int (dz_i (sp_ix 1 c))]
  refine dz_goto (tgt := 36) x.1 d_JStr_indexOf2_20 (by decide) ?_
  exact ly_iret x d_JStr_indexOf2_36 rfl ⟨rfl, rfl⟩
set_option maxRecDepth 100000 in
set_option maxHeartbeats 4000000 in
theorem c_JStr_indexOf_1 (l : Launch) (D : va_G) (Dt : Nat → ClassId) (b sz : Nat) (I : dz_Hp) (c : Int) (hc : 0 ≤ c ∧ c < 65536) : ly_M l D Dt b sz y_JStr_indexOf b_JStr_indexOf 2 (some .int) 4 [.ref (Dt (100 + 1)), .int (dz_i c)] I (fun v I' => v = some (.int (dz_i (sp_ix 1 c))) ∧ I' = I) := by
  refine ly_enter R_JStr (by decide) rfl (Nat.le_of_ble_eq_true rfl) (ly_cat _ 0 rfl) (fun κ x => ?_)
  have hN := ly_N x
  show ly_V κ b sz I 0 [(0, .ref (Dt (100 + 1))), (1, .int (dz_i c))] []
  refine dz_aload_n x.1 0 d_JStr_indexOf_0 rfl rfl ?_
  refine dz_iload_n x.1 1 d_JStr_indexOf_1 rfl rfl ?_
  refine dz_iconst x.1 d_JStr_indexOf_2 ?_
  refine ly_callT (i := 1) (rest := []) x cl_JStr_633 (by decide) (c_JStr_indexOf2_1 l D Dt b sz I c hc) (by decide) rfl rfl rfl (Nat.le_of_ble_eq_true rfl) d_JStr_indexOf_3 (fun v I' hp1 => ?_)
  obtain ⟨rfl, hp1I⟩ := hp1
  have hp1I := hp1I.symm
  subst hp1I
  show ly_V κ b sz I 6 [(0, .ref (Dt (100 + 1))), (1, .int (dz_i c))] [.int (dz_i (sp_ix 1 c))]
  exact ly_iret x d_JStr_indexOf_6 rfl ⟨rfl, rfl⟩
set_option maxRecDepth 100000 in
set_option maxHeartbeats 4000000 in
theorem c_JPre_checkIndex_n (l : Launch) (D : va_G) (Dt : Nat → ClassId) (b sz : Nat) (I : dz_Hp) (z n : Int) (hz : 0 ≤ z ∧ z < n ∧ n < 2147483648) : ly_M l D Dt b sz y_JPre_checkIndex b_JPre_checkIndex 3 (some .int) 1 [.int (dz_i z), .int (dz_i n), .null] I (fun v I' => v = some (.int (dz_i z)) ∧ I' = I) := by
  refine ly_enter R_JPre (by decide) rfl (Nat.le_of_ble_eq_true rfl) (ly_cat _ 0 rfl) (fun κ x => ?_)
  have hN := ly_N x
  show ly_V κ b sz I 0 [(0, .int (dz_i z)), (1, .int (dz_i n)), (2, .null)] []
  refine dz_iload_n x.1 0 d_JPre_checkIndex_0 rfl rfl ?_
  refine dz_if_lt (tgt := 9) x.1 d_JPre_checkIndex_1 (by decide) (by omega) (fun hc1 => by exfalso; omega) (fun hc1 => ?_)
  refine dz_iload_n x.1 0 d_JPre_checkIndex_4 rfl rfl ?_
  refine dz_iload_n x.1 1 d_JPre_checkIndex_5 rfl rfl ?_
  refine dz_icmp_lt (tgt := 16) x.1 d_JPre_checkIndex_6 (by decide) (by omega) (by omega) (fun hc2 => ?_) (fun hc2 => by exfalso; omega)
  refine dz_iload_n x.1 0 d_JPre_checkIndex_16 rfl rfl ?_
  exact ly_iret x d_JPre_checkIndex_17 rfl ⟨rfl, rfl⟩
set_option maxRecDepth 100000 in
set_option maxHeartbeats 4000000 in
theorem c_JPre_checkIndex_r (l : Launch) (D : va_G) (Dt : Nat → ClassId) (b sz : Nat) (I : dz_Hp) (t : Nat) (z n : Int) (hz : 0 ≤ z ∧ z < n ∧ n < 2147483648) : ly_M l D Dt b sz y_JPre_checkIndex b_JPre_checkIndex 3 (some .int) 1 [.int (dz_i z), .int (dz_i n), .ref t] I (fun v I' => v = some (.int (dz_i z)) ∧ I' = I) := by
  refine ly_enter R_JPre (by decide) rfl (Nat.le_of_ble_eq_true rfl) (ly_cat _ 0 rfl) (fun κ x => ?_)
  have hN := ly_N x
  show ly_V κ b sz I 0 [(0, .int (dz_i z)), (1, .int (dz_i n)), (2, .ref t)] []
  refine dz_iload_n x.1 0 d_JPre_checkIndex_0 rfl rfl ?_
  refine dz_if_lt (tgt := 9) x.1 d_JPre_checkIndex_1 (by decide) (by omega) (fun hc1 => by exfalso; omega) (fun hc1 => ?_)
  refine dz_iload_n x.1 0 d_JPre_checkIndex_4 rfl rfl ?_
  refine dz_iload_n x.1 1 d_JPre_checkIndex_5 rfl rfl ?_
  refine dz_icmp_lt (tgt := 16) x.1 d_JPre_checkIndex_6 (by decide) (by omega) (by omega) (fun hc2 => ?_) (fun hc2 => by exfalso; omega)
  refine dz_iload_n x.1 0 d_JPre_checkIndex_16 rfl rfl ?_
  exact ly_iret x d_JPre_checkIndex_17 rfl ⟨rfl, rfl⟩
set_option maxRecDepth 100000 in
set_option maxHeartbeats 4000000 in
theorem c_JStr_checkIndex (l : Launch) (D : va_G) (Dt : Nat → ClassId) (b sz : Nat) (I : dz_Hp) (z n : Int) (hz : 0 ≤ z ∧ z < n ∧ n < 2147483648) : ly_M l D Dt b sz y_JStr_checkIndex b_JStr_checkIndex 2 none 2 [.int (dz_i z), .int (dz_i n)] I (fun v I' => v = none ∧ I' = I) := by
  refine ly_enter R_JStr (by decide) rfl (Nat.le_of_ble_eq_true rfl) (ly_cat _ 0 rfl) (fun κ x => ?_)
  have hN := ly_N x
  show ly_V κ b sz I 0 [(0, .int (dz_i z)), (1, .int (dz_i n))] []
  refine dz_iload_n x.1 0 d_JStr_checkIndex_0 rfl rfl ?_
  refine dz_iload_n x.1 1 d_JStr_checkIndex_1 rfl rfl ?_
  refine ly_getsF x sl_JStr_1053 d_JStr_checkIndex_2 (fun w hw => ?_)
  rcases hw with rfl | ⟨t, rfl⟩
  · refine ly_callS (rest := []) x cl_JStr_1059 (c_JPre_checkIndex_n l D Dt b sz I z n hz) (by decide) rfl rfl (Nat.le_of_ble_eq_true rfl) d_JStr_checkIndex_5 (fun v I' hp1 => ?_)
    obtain ⟨rfl, hp1I⟩ := hp1
    have hp1I := hp1I.symm
    subst hp1I
    show ly_V κ b sz I 8 [(0, .int (dz_i z)), (1, .int (dz_i n))] [.int (dz_i z)]
    refine dz_pop x.1 d_JStr_checkIndex_8 rfl ?_
    exact ly_vret x d_JStr_checkIndex_9 ⟨rfl, rfl⟩
  · refine ly_callS (rest := []) x cl_JStr_1059 (c_JPre_checkIndex_r l D Dt b sz I t z n hz) (by decide) rfl rfl (Nat.le_of_ble_eq_true rfl) d_JStr_checkIndex_5 (fun v I' hp2 => ?_)
    obtain ⟨rfl, hp2I⟩ := hp2
    have hp2I := hp2I.symm
    subst hp2I
    show ly_V κ b sz I 8 [(0, .int (dz_i z)), (1, .int (dz_i n))] [.int (dz_i z)]
    refine dz_pop x.1 d_JStr_checkIndex_8 rfl ?_
    exact ly_vret x d_JStr_checkIndex_9 ⟨rfl, rfl⟩
theorem sp_sb_rng : ∀ i : Nat, i < 2 → ∀ z : Int, 0 ≤ sp_sb i z ∧ sp_sb i z < 128 := by
  intro i hi z
  unfold sp_sb
  by_cases h : z.toNat < 8
  · have key : ∀ n : Nat, n < 8 → ∀ i : Nat, i < 2 → 0 ≤ ((if i = 0 then [119, 98, 109, 101, 97] else [46, 44, 59, 58, 63, 33, 45, 39]) : List Int).getD n 0 ∧ ((if i = 0 then [119, 98, 109, 101, 97] else [46, 44, 59, 58, 63, 33, 45, 39]) : List Int).getD n 0 < 128 := by decide +kernel
    exact key _ h i hi
  · rw [List.getD_eq_getElem?_getD, List.getElem?_eq_none (by split <;> simp <;> omega)]
    simp
theorem sp_255 {z : Int} (h : 0 ≤ z ∧ z < 128) : dz_i z &&& dz_i 255 = dz_i z := by
  have key : ∀ n : Nat, n < 128 → dz_i (n : Int) &&& dz_i 255 = dz_i (n : Int) := by decide +kernel
  have h2 := key z.toNat (by omega)
  rw [show ((z.toNat : Nat) : Int) = z by omega] at h2
  exact h2
set_option maxRecDepth 100000 in
set_option maxHeartbeats 4000000 in
theorem c_JL1_charAt (l : Launch) (D : va_G) (Dt : Nat → ClassId) (b sz : Nat) (I : dz_Hp) (z : Int) (hz : 0 ≤ z ∧ z < 8) : ly_M l D Dt b sz y_JL1_charAt b_JL1_charAt 2 (some .char) 3 [.ref (Dt (200 + 1)), .int (dz_i z)] I (fun v I' => v = some (.int (dz_i (sp_sb 1 z))) ∧ I' = I) := by
  refine ly_enter R_JL1 (by decide) rfl (Nat.le_of_ble_eq_true rfl) (ly_cat _ 0 rfl) (fun κ x => ?_)
  have hN := ly_N x
  have hr := sp_sb_rng 1 (by decide) z
  show ly_V κ b sz I 0 [(0, .ref (Dt (200 + 1))), (1, .int (dz_i z))] []
  refine dz_iload_n x.1 1 d_JL1_charAt_0 rfl rfl ?_
  refine dz_aload_n x.1 0 d_JL1_charAt_1 rfl rfl ?_
  refine ly_tbn (i := 1) (w := 8) x (by decide) (by decide) d_JL1_charAt_2 ?_
  refine ly_callS (rest := []) x cl_JL1_9 (c_JStr_checkIndex l D Dt b sz I z 8 (by omega)) (by decide) rfl rfl (Nat.le_of_ble_eq_true rfl) d_JL1_charAt_3 (fun v I' hp1 => ?_)
  obtain ⟨rfl, hp1I⟩ := hp1
  have hp1I := hp1I.symm
  subst hp1I
  show ly_V κ b sz I 6 [(0, .ref (Dt (200 + 1))), (1, .int (dz_i z))] []
  refine dz_aload_n x.1 0 d_JL1_charAt_6 rfl rfl ?_
  refine dz_iload_n x.1 1 d_JL1_charAt_7 rfl rfl ?_
  refine ly_tbl (i := 1) (w := (sp_sb 1 z)) x (by decide) (by show _ ∧ _ < ((8 : Nat) : Int); omega) rfl d_JL1_charAt_8 ?_
  refine dz_sipush x.1 d_JL1_charAt_9 (by decide) ?_
  refine dz_iand (z := (sp_sb 1 z)) x.1 d_JL1_charAt_12 (sp_255 hr) ?_
  refine dz_i2c x.1 d_JL1_charAt_13 (by omega) ?_
  exact ly_iret x d_JL1_charAt_14 (dz_nch (by omega)) ⟨rfl, rfl⟩
set_option maxRecDepth 100000 in
set_option maxHeartbeats 4000000 in
theorem c_JStr_charAt (l : Launch) (D : va_G) (Dt : Nat → ClassId) (b sz : Nat) (I : dz_Hp) (z : Int) (hz : 0 ≤ z ∧ z < 8) : ly_M l D Dt b sz y_JStr_charAt b_JStr_charAt 2 (some .char) 4 [.ref (Dt (100 + 1)), .int (dz_i z)] I (fun v I' => v = some (.int (dz_i (sp_sb 1 z))) ∧ I' = I) := by
  refine ly_enter R_JStr (by decide) rfl (Nat.le_of_ble_eq_true rfl) (ly_cat _ 0 rfl) (fun κ x => ?_)
  have hN := ly_N x
  have hr := sp_sb_rng 1 (by decide) z
  show ly_V κ b sz I 0 [(0, .ref (Dt (100 + 1))), (1, .int (dz_i z))] []
  refine dz_aload_n x.1 0 d_JStr_charAt_0 rfl rfl ?_
  refine ly_callT (i := 1) (rest := []) x cl_JStr_492 (by decide) (c_JStr_isLatin1_1 l D Dt b sz I) (by decide) rfl rfl rfl (Nat.le_of_ble_eq_true rfl) d_JStr_charAt_1 (fun v I' hp1 => ?_)
  obtain ⟨rfl, hp1I⟩ := hp1
  have hp1I := hp1I.symm
  subst hp1I
  show ly_V κ b sz I 4 [(0, .ref (Dt (100 + 1))), (1, .int (dz_i z))] [.int (dz_i 1)]
  refine dz_if_eq (tgt := 16) x.1 d_JStr_charAt_4 (by decide) (by omega) (fun hc2 => by exfalso; omega) (fun hc2 => ?_)
  refine dz_aload_n x.1 0 d_JStr_charAt_7 rfl rfl ?_
  refine ly_gfv (i := 1) x (by decide) sl_JStr_9 d_JStr_charAt_8 ?_
  refine dz_iload_n x.1 1 d_JStr_charAt_11 rfl rfl ?_
  refine ly_callS (rest := []) x cl_JStr_495 (c_JL1_charAt l D Dt b sz I z hz) (by decide) rfl rfl (Nat.le_of_ble_eq_true rfl) d_JStr_charAt_12 (fun v I' hp3 => ?_)
  obtain ⟨rfl, hp3I⟩ := hp3
  have hp3I := hp3I.symm
  subst hp3I
  show ly_V κ b sz I 15 [(0, .ref (Dt (100 + 1))), (1, .int (dz_i z))] [.int (dz_i (sp_sb 1 z))]
  exact ly_iret x d_JStr_charAt_15 (dz_nch (by omega)) ⟨rfl, rfl⟩
