set_option maxRecDepth 100000 in
set_option maxHeartbeats 4000000 in
theorem c_DotBook_size (l : Launch) (hst9 : l.stackTraces = false) (D : va_G) (Dt : Nat → ClassId) (b sz : Nat) (I : dz_Hp) (W T n : Int) (g : Int → Int) (c : Nat) (S : Nat → sp_Ru) (w : Int) (nb : Nat) (Bk : Nat → sp_Bk) (H : List Int) (CI : sp_CL b I W T n g c S w nb Bk H) (q : Int) (hq : -2147483648 ≤ q ∧ q < 2147483648)  : ly_CX l D Dt b sz y_DotBook_size b_DotBook_size 2 (some .int) 7 [.ref (b + 0), .int (dz_i q)] I (fun v I' => v = some (.int (dz_i ((Bk q.toNat).2.length : Int))) ∧ (0 ≤ q ∧ q < (nb : Int)) ∧ I' = I) (fun E I' => E = xc_IOB ∧ ¬ (0 ≤ q ∧ q < (nb : Int)) ∧ I' = I) := by
  refine ly_enterX hst9 R_DotBook (by decide) rfl (Nat.le_of_ble_eq_true rfl) (ly_cat _ 0 rfl) (fun κ x => ?_)
  have hN := ly_NX x
  obtain ⟨⟨hW, hT⟩, TI, RI, hw1, KI, hnb, HB, HP, HI⟩ := id CI
  have hn9 := TI.nn
  have hc24 := RI.2.1
  have hbs := sp_bs_rng hW hT.1 nb (fun i hi => (HB i hi).2.2.2.2)
  have hHl := HI.2.1
  show ly_V κ b sz I 0 [(0, .ref (b + 0)), (1, .int (dz_i q))] []
  refine dz_iload_n x.1 1 d_DotBook_size_0 rfl rfl ?_
  refine dz_if_lt (tgt := 15) x.1 d_DotBook_size_1 (by decide) (by omega) (fun hc1 => ?_) (fun hc1 => ?_)
  · exact ly_IOB x (by decide) d_DotBook_size_15 d_DotBook_size_18 d_DotBook_size_19 d_DotBook_size_22 ⟨rfl, by omega, rfl⟩
  · refine dz_iload_n x.1 1 d_DotBook_size_4 rfl rfl ?_
    refine dz_aload_n x.1 0 d_DotBook_size_5 rfl rfl ?_
    refine dz_getr x.1 (ly_DotBook b) fl_DotBook_55 (lr_DotBook_4 b) d_DotBook_size_6 ?_
    refine dz_geti (z := (nb : Int)) x.1 (ly_Book b) fl_DotBook_85 d_DotBook_size_9 KI.2.2.2.1 ?_
    refine dz_icmp_lt (tgt := 23) x.1 d_DotBook_size_12 (by decide) (by omega) (by omega) (fun hc12 => ?_) (fun hc12 => ?_)
    · obtain ⟨j, rfl⟩ : ∃ j : Nat, q = (j : Int) := ⟨q.toNat, by omega⟩
      have hj : j < nb := by omega
      have hj12 : j < 12 := by omega
      have hBj := HB j hj
      have hbl := sp_bl_ok hW hBj.2.2.2.2.2.1
      have hjt : (j : Int).toNat = j := Int.toNat_natCast j
      show ly_V κ b sz I 23 [(0, .ref (b + 0)), (1, .int (dz_i (j : Int)))] []
      refine dz_aload_n x.1 0 d_DotBook_size_23 rfl rfl ?_
      refine dz_getr x.1 (ly_DotBook b) fl_DotBook_55 (lr_DotBook_4 b) d_DotBook_size_24 ?_
      refine dz_getr x.1 (ly_Book b) fl_DotBook_86 (lr_Book_3 b) d_DotBook_size_27 ?_
      refine dz_iload_n x.1 1 d_DotBook_size_30 rfl rfl ?_
      refine dz_aald4 x.1 (ly_BlockArr b) (by decide) (by omega) (lr_BlockArr b hj12) d_DotBook_size_31 ?_
      refine dz_geti (z := ((Bk j).2.length : Int)) x.1 (ly_Block b hj12) fl_DotBook_106 d_DotBook_size_32 (HB j (by omega)).2.1.1 ?_
      exact ly_iretX x d_DotBook_size_35 rfl ⟨by rw [hjt], by omega, rfl⟩
    · exact ly_IOB x (by decide) d_DotBook_size_15 d_DotBook_size_18 d_DotBook_size_19 d_DotBook_size_22 ⟨rfl, by omega, rfl⟩
set_option maxRecDepth 100000 in
set_option maxHeartbeats 4000000 in
theorem c_DotBook_cell (l : Launch) (hst9 : l.stackTraces = false) (D : va_G) (Dt : Nat → ClassId) (b sz : Nat) (I : dz_Hp) (W T n : Int) (g : Int → Int) (c : Nat) (S : Nat → sp_Ru) (w : Int) (nb : Nat) (Bk : Nat → sp_Bk) (H : List Int) (CI : sp_CL b I W T n g c S w nb Bk H) (q : Int) (hq : -2147483648 ≤ q ∧ q < 2147483648) (i9 : Int) (hi9 : -2147483648 ≤ i9 ∧ i9 < 2147483648) : ly_CX l D Dt b sz y_DotBook_cell b_DotBook_cell 3 (some .int) 7 [.ref (b + 0), .int (dz_i q), .int (dz_i i9)] I (fun v I' => v = some (.int (dz_i (((Bk q.toNat).2.getD i9.toNat (0, 0)).1 + 64 * ((Bk q.toNat).2.getD i9.toNat (0, 0)).2))) ∧ (0 ≤ q ∧ q < (nb : Int) ∧ 0 ≤ i9 ∧ i9 < ((Bk q.toNat).2.length : Int)) ∧ I' = I) (fun E I' => E = xc_IOB ∧ ¬ (0 ≤ q ∧ q < (nb : Int) ∧ 0 ≤ i9 ∧ i9 < ((Bk q.toNat).2.length : Int)) ∧ I' = I) := by
  refine ly_enterX hst9 R_DotBook (by decide) rfl (Nat.le_of_ble_eq_true rfl) (ly_cat _ 0 rfl) (fun κ x => ?_)
  have hN := ly_NX x
  obtain ⟨⟨hW, hT⟩, TI, RI, hw1, KI, hnb, HB, HP, HI⟩ := id CI
  have hn9 := TI.nn
  have hc24 := RI.2.1
  have hbs := sp_bs_rng hW hT.1 nb (fun i hi => (HB i hi).2.2.2.2)
  have hHl := HI.2.1
  show ly_V κ b sz I 0 [(0, .ref (b + 0)), (1, .int (dz_i q)), (2, .int (dz_i i9))] []
  refine dz_iload_n x.1 1 d_DotBook_cell_0 rfl rfl ?_
  refine dz_if_lt (tgt := 35) x.1 d_DotBook_cell_1 (by decide) (by omega) (fun hc1 => ?_) (fun hc1 => ?_)
  · exact ly_IOB x (by decide) d_DotBook_cell_35 d_DotBook_cell_38 d_DotBook_cell_39 d_DotBook_cell_42 ⟨rfl, by omega, rfl⟩
  · refine dz_iload_n x.1 1 d_DotBook_cell_4 rfl rfl ?_
    refine dz_aload_n x.1 0 d_DotBook_cell_5 rfl rfl ?_
    refine dz_getr x.1 (ly_DotBook b) fl_DotBook_55 (lr_DotBook_4 b) d_DotBook_cell_6 ?_
    refine dz_geti (z := (nb : Int)) x.1 (ly_Book b) fl_DotBook_85 d_DotBook_cell_9 KI.2.2.2.1 ?_
    refine dz_icmp_ge (tgt := 35) x.1 d_DotBook_cell_12 (by decide) (by omega) (by omega) (fun hc12 => ?_) (fun hc12 => ?_)
    · exact ly_IOB x (by decide) d_DotBook_cell_35 d_DotBook_cell_38 d_DotBook_cell_39 d_DotBook_cell_42 ⟨rfl, by omega, rfl⟩
    · obtain ⟨j, rfl⟩ : ∃ j : Nat, q = (j : Int) := ⟨q.toNat, by omega⟩
      have hj : j < nb := by omega
      have hj12 : j < 12 := by omega
      have hBj := HB j hj
      have hbl := sp_bl_ok hW hBj.2.2.2.2.2.1
      have hjt : (j : Int).toNat = j := Int.toNat_natCast j
      have hl200 := hBj.2.2.2.2.2.1
      show ly_V κ b sz I 15 [(0, .ref (b + 0)), (1, .int (dz_i (j : Int))), (2, .int (dz_i i9))] []
      refine dz_iload_n x.1 2 d_DotBook_cell_15 rfl rfl ?_
      refine dz_if_lt (tgt := 35) x.1 d_DotBook_cell_16 (by decide) (by omega) (fun hc16 => ?_) (fun hc16 => ?_)
      · exact ly_IOB x (by decide) d_DotBook_cell_35 d_DotBook_cell_38 d_DotBook_cell_39 d_DotBook_cell_42 ⟨rfl, by rw [hjt]; omega, rfl⟩
      · refine dz_iload_n x.1 2 d_DotBook_cell_19 rfl rfl ?_
        refine dz_aload_n x.1 0 d_DotBook_cell_20 rfl rfl ?_
        refine dz_getr x.1 (ly_DotBook b) fl_DotBook_55 (lr_DotBook_4 b) d_DotBook_cell_21 ?_
        refine dz_getr x.1 (ly_Book b) fl_DotBook_86 (lr_Book_3 b) d_DotBook_cell_24 ?_
        refine dz_iload_n x.1 1 d_DotBook_cell_27 rfl rfl ?_
        refine dz_aald4 x.1 (ly_BlockArr b) (by decide) (by omega) (lr_BlockArr b hj12) d_DotBook_cell_28 ?_
        refine dz_geti (z := ((Bk j).2.length : Int)) x.1 (ly_Block b hj12) fl_DotBook_106 d_DotBook_cell_29 (HB j (by omega)).2.1.1 ?_
        refine dz_icmp_lt (tgt := 43) x.1 d_DotBook_cell_32 (by decide) (by omega) (by omega) (fun hc32 => ?_) (fun hc32 => ?_)
        · have hil : i9.toNat < (Bk j).2.length := by omega
          have hie : (Bk j).2[i9.toNat]? = some ((Bk j).2.getD i9.toNat (0, 0)) := by rw [List.getD_eq_getElem?_getD, List.getElem?_eq_getElem hil]; rfl
          refine dz_aload_n x.1 0 d_DotBook_cell_43 rfl rfl ?_
          refine dz_getr x.1 (ly_DotBook b) fl_DotBook_55 (lr_DotBook_4 b) d_DotBook_cell_44 ?_
          refine dz_getr x.1 (ly_Book b) fl_DotBook_86 (lr_Book_3 b) d_DotBook_cell_47 ?_
          refine dz_iload_n x.1 1 d_DotBook_cell_50 rfl rfl ?_
          refine dz_aald4 x.1 (ly_BlockArr b) (by decide) (by omega) (lr_BlockArr b hj12) d_DotBook_cell_51 ?_
          refine dz_getr x.1 (ly_Block b hj12) fl_DotBook_107 (lr_Block_1 b hj12) d_DotBook_cell_52 ?_
          refine dz_iload_n x.1 2 d_DotBook_cell_55 rfl rfl ?_
          refine dz_iald (w := (((Bk j).2.getD i9.toNat (0, 0)).1 + 64 * ((Bk j).2.getD i9.toNat (0, 0)).2)) x.1 (ly_BCells b hj12) (by decide) (by omega) d_DotBook_cell_56 (by have h9 := hBj.2.1.2.2 i9.toNat _ hie; rw [show ((i9.toNat : Nat) : Int) = i9 by omega] at h9; exact h9) ?_
          exact ly_iretX x d_DotBook_cell_57 rfl ⟨by rw [hjt], by rw [hjt]; omega, rfl⟩
        · exact ly_IOB x (by decide) d_DotBook_cell_35 d_DotBook_cell_38 d_DotBook_cell_39 d_DotBook_cell_42 ⟨rfl, by rw [hjt]; omega, rfl⟩
set_option maxRecDepth 100000 in
set_option maxHeartbeats 4000000 in
theorem c_DotBook_back (l : Launch) (hst9 : l.stackTraces = false) (D : va_G) (Dt : Nat → ClassId) (b sz : Nat) (I : dz_Hp) (W T n : Int) (g : Int → Int) (c : Nat) (S : Nat → sp_Ru) (w : Int) (nb : Nat) (Bk : Nat → sp_Bk) (H : List Int) (CI : sp_CL b I W T n g c S w nb Bk H) (q : Int) (hq : -2147483648 ≤ q ∧ q < 2147483648)  : ly_CX l D Dt b sz y_DotBook_back b_DotBook_back 2 (some .int) 9 [.ref (b + 0), .int (dz_i q)] I (fun v I' => v = some (.int (dz_i ((sp_bk (sp_oh (Bk q.toNat).2) c S (Bk q.toNat).2.length 0).length : Int))) ∧ (0 ≤ q ∧ q < (nb : Int)) ∧ sp_CL b I' W T n g c S w nb Bk (sp_bk (sp_oh (Bk q.toNat).2) c S (Bk q.toNat).2.length 0) ∧ sp_fr I I' (fun q => q < b + 130)) (fun E I' => E = xc_IOB ∧ ¬ (0 ≤ q ∧ q < (nb : Int)) ∧ I' = I) := by
  refine ly_enterX hst9 R_DotBook (by decide) rfl (Nat.le_of_ble_eq_true rfl) (ly_cat _ 0 rfl) (fun κ x => ?_)
  have hN := ly_NX x
  obtain ⟨⟨hW, hT⟩, TI, RI, hw1, KI, hnb, HB, HP, HI⟩ := id CI
  have hn9 := TI.nn
  have hc24 := RI.2.1
  have hbs := sp_bs_rng hW hT.1 nb (fun i hi => (HB i hi).2.2.2.2)
  have hHl := HI.2.1
  show ly_V κ b sz I 0 [(0, .ref (b + 0)), (1, .int (dz_i q))] []
  refine dz_iload_n x.1 1 d_DotBook_back_0 rfl rfl ?_
  refine dz_if_lt (tgt := 15) x.1 d_DotBook_back_1 (by decide) (by omega) (fun hc1 => ?_) (fun hc1 => ?_)
  · exact ly_IOB x (by decide) d_DotBook_back_15 d_DotBook_back_18 d_DotBook_back_19 d_DotBook_back_22 ⟨rfl, by omega, rfl⟩
  · refine dz_iload_n x.1 1 d_DotBook_back_4 rfl rfl ?_
    refine dz_aload_n x.1 0 d_DotBook_back_5 rfl rfl ?_
    refine dz_getr x.1 (ly_DotBook b) fl_DotBook_55 (lr_DotBook_4 b) d_DotBook_back_6 ?_
    refine dz_geti (z := (nb : Int)) x.1 (ly_Book b) fl_DotBook_85 d_DotBook_back_9 KI.2.2.2.1 ?_
    refine dz_icmp_lt (tgt := 23) x.1 d_DotBook_back_12 (by decide) (by omega) (by omega) (fun hc12 => ?_) (fun hc12 => ?_)
    · obtain ⟨j, rfl⟩ : ∃ j : Nat, q = (j : Int) := ⟨q.toNat, by omega⟩
      have hj : j < nb := by omega
      have hj12 : j < 12 := by omega
      have hBj := HB j hj
      have hbl := sp_bl_ok hW hBj.2.2.2.2.2.1
      have hjt : (j : Int).toNat = j := Int.toNat_natCast j
      show ly_V κ b sz I 23 [(0, .ref (b + 0)), (1, .int (dz_i (j : Int)))] []
      refine dz_aload_n x.1 0 d_DotBook_back_23 rfl rfl ?_
      refine dz_getr x.1 (ly_DotBook b) fl_DotBook_37 (lr_DotBook_3 b) d_DotBook_back_24 ?_
      refine dz_aload_n x.1 0 d_DotBook_back_27 rfl rfl ?_
      refine dz_getr x.1 (ly_DotBook b) fl_DotBook_55 (lr_DotBook_4 b) d_DotBook_back_28 ?_
      refine dz_getr x.1 (ly_Book b) fl_DotBook_86 (lr_Book_3 b) d_DotBook_back_31 ?_
      refine dz_iload_n x.1 1 d_DotBook_back_34 rfl rfl ?_
      refine dz_aald4 x.1 (ly_BlockArr b) (by decide) (by omega) (lr_BlockArr b hj12) d_DotBook_back_35 ?_
      refine ly_callVX (rest := []) x cl_DotBook_111 (c_Reader_readBlock l D Dt b sz I c S RI j hj12 ((Bk j).2.length : Int) (sp_oh (Bk j).2) (hBj.2.1.toB hBj.2.2.2.2) (sp_bk_len (sp_oh_hh hBj.2.2.2.2) RI.wf)) (by decide) (ly_Reader b) rfl rfl rfl rfl (Nat.le_of_ble_eq_true rfl) d_DotBook_back_36 (fun v J hp36 => ?_)
      obtain ⟨rfl, hF, hH⟩ := hp36
      rw [Int.toNat_natCast] at hH
      show ly_V κ b sz J 39 [(0, .ref (b + 0)), (1, .int (dz_i (j : Int)))] []
      refine dz_aload_n x.1 0 d_DotBook_back_39 rfl rfl ?_
      refine dz_getr x.1 (ly_DotBook b) fl_DotBook_37 (lr_DotBook_3 b) d_DotBook_back_40 ?_
      refine dz_geti (z := ((sp_bk (sp_oh (Bk j).2) c S (Bk j).2.length 0).length : Int)) x.1 (ly_Reader b) fl_DotBook_114 d_DotBook_back_43 hH.1 ?_
      exact ly_iretX x d_DotBook_back_46 rfl ⟨by rw [hjt], by omega, by rw [hjt]; exact CI.hrd hF hH, hF.mono (fun q h => by rcases h with h | h <;> omega)⟩
    · exact ly_IOB x (by decide) d_DotBook_back_15 d_DotBook_back_18 d_DotBook_back_19 d_DotBook_back_22 ⟨rfl, by omega, rfl⟩
set_option maxRecDepth 100000 in
set_option maxHeartbeats 4000000 in
theorem c_DotBook_where (l : Launch) (hst9 : l.stackTraces = false) (D : va_G) (Dt : Nat → ClassId) (b sz : Nat) (I : dz_Hp) (W T n : Int) (g : Int → Int) (c : Nat) (S : Nat → sp_Ru) (w : Int) (nb : Nat) (Bk : Nat → sp_Bk) (H : List Int) (CI : sp_CL b I W T n g c S w nb Bk H) (q : Int) (hq : -2147483648 ≤ q ∧ q < 2147483648)  : ly_CX l D Dt b sz y_DotBook_where b_DotBook_where 3 (some .int) 7 [.ref (b + 0), .int (dz_i q)] I (fun v I' => v = some (.int (dz_i (if 0 < (sp_bl W (Bk q.toNat)).length then (sp_pp W T Bk q.toNat).1 * 32 + (sp_pp W T Bk q.toNat).2 else -1))) ∧ (0 ≤ q ∧ q < (nb : Int)) ∧ I' = I) (fun E I' => E = xc_IOB ∧ ¬ (0 ≤ q ∧ q < (nb : Int)) ∧ I' = I) := by
  refine ly_enterX hst9 R_DotBook (by decide) rfl (Nat.le_of_ble_eq_true rfl) (ly_cat _ 0 rfl) (fun κ x => ?_)
  have hN := ly_NX x
  obtain ⟨⟨hW, hT⟩, TI, RI, hw1, KI, hnb, HB, HP, HI⟩ := id CI
  have hn9 := TI.nn
  have hc24 := RI.2.1
  have hbs := sp_bs_rng hW hT.1 nb (fun i hi => (HB i hi).2.2.2.2)
  have hHl := HI.2.1
  show ly_V κ b sz I 0 [(0, .ref (b + 0)), (1, .int (dz_i q))] []
  refine dz_iload_n x.1 1 d_DotBook_where_0 rfl rfl ?_
  refine dz_if_lt (tgt := 15) x.1 d_DotBook_where_1 (by decide) (by omega) (fun hc1 => ?_) (fun hc1 => ?_)
  · exact ly_IOB x (by decide) d_DotBook_where_15 d_DotBook_where_18 d_DotBook_where_19 d_DotBook_where_22 ⟨rfl, by omega, rfl⟩
  · refine dz_iload_n x.1 1 d_DotBook_where_4 rfl rfl ?_
    refine dz_aload_n x.1 0 d_DotBook_where_5 rfl rfl ?_
    refine dz_getr x.1 (ly_DotBook b) fl_DotBook_55 (lr_DotBook_4 b) d_DotBook_where_6 ?_
    refine dz_geti (z := (nb : Int)) x.1 (ly_Book b) fl_DotBook_85 d_DotBook_where_9 KI.2.2.2.1 ?_
    refine dz_icmp_lt (tgt := 23) x.1 d_DotBook_where_12 (by decide) (by omega) (by omega) (fun hc12 => ?_) (fun hc12 => ?_)
    · obtain ⟨j, rfl⟩ : ∃ j : Nat, q = (j : Int) := ⟨q.toNat, by omega⟩
      have hj : j < nb := by omega
      have hj12 : j < 12 := by omega
      have hBj := HB j hj
      have hbl := sp_bl_ok hW hBj.2.2.2.2.2.1
      have hjt : (j : Int).toNat = j := Int.toNat_natCast j
      show ly_V κ b sz I 23 [(0, .ref (b + 0)), (1, .int (dz_i (j : Int)))] []
      refine dz_aload_n x.1 0 d_DotBook_where_23 rfl rfl ?_
      refine dz_getr x.1 (ly_DotBook b) fl_DotBook_55 (lr_DotBook_4 b) d_DotBook_where_24 ?_
      refine dz_getr x.1 (ly_Book b) fl_DotBook_86 (lr_Book_3 b) d_DotBook_where_27 ?_
      refine dz_iload_n x.1 1 d_DotBook_where_30 rfl rfl ?_
      refine dz_aald4 x.1 (ly_BlockArr b) (by decide) (by omega) (lr_BlockArr b hj12) d_DotBook_where_31 ?_
      refine dz_astore_n (ls' := [(0, .ref (b + 0)), (1, .int (dz_i (j : Int))), (2, .ref (b + (82 + 4 * j)))]) x.1 d_DotBook_where_32 rfl hN (by decide) rfl ?_
      refine dz_aload_n x.1 2 d_DotBook_where_33 rfl rfl ?_
      refine dz_geti (z := ((sp_bl W (Bk j)).length : Int)) x.1 (ly_Block b hj12) fl_DotBook_138 d_DotBook_where_34 (HB j (by omega)).2.2.1.1 ?_
      refine dz_if_le (tgt := 55) x.1 d_DotBook_where_37 (by decide) (by omega) (fun hc37 => ?_) (fun hc37 => ?_)
      · refine dz_iconst x.1 d_DotBook_where_55 ?_
        have hv9 : (if 0 < (sp_bl W (Bk j)).length then (sp_pp W T Bk j).1 * 32 + (sp_pp W T Bk j).2 else -1) = (-1) := by rw [if_neg (by omega)]
        exact ly_iretX x d_DotBook_where_56 rfl ⟨by rw [hjt, hv9], by omega, rfl⟩
      · refine dz_aload_n x.1 2 d_DotBook_where_40 rfl rfl ?_
        refine dz_geti (z := (sp_pp W T Bk j).1) x.1 (ly_Block b hj12) fl_DotBook_141 d_DotBook_where_41 (hBj.2.2.2.1 (by omega)).1 ?_
        refine dz_bipush x.1 d_DotBook_where_44 (by decide) ?_
        refine dz_imul (z := 32 * (sp_pp W T Bk j).1) x.1 d_DotBook_where_46 (by omega) ?_
        refine dz_aload_n x.1 2 d_DotBook_where_47 rfl rfl ?_
        refine dz_geti (z := (sp_pp W T Bk j).2) x.1 (ly_Block b hj12) fl_DotBook_144 d_DotBook_where_48 (hBj.2.2.2.1 (by omega)).2 ?_
        refine dz_iadd (z := 32 * (sp_pp W T Bk j).1 + (sp_pp W T Bk j).2) x.1 d_DotBook_where_51 (by omega) ?_
        refine dz_goto (tgt := 56) x.1 d_DotBook_where_52 (by decide) ?_
        have hv9 : (if 0 < (sp_bl W (Bk j)).length then (sp_pp W T Bk j).1 * 32 + (sp_pp W T Bk j).2 else -1) = 32 * (sp_pp W T Bk j).1 + (sp_pp W T Bk j).2 := by rw [if_pos (by omega)]; omega
        exact ly_iretX x d_DotBook_where_56 rfl ⟨by rw [hjt, hv9], by omega, rfl⟩
    · exact ly_IOB x (by decide) d_DotBook_where_15 d_DotBook_where_18 d_DotBook_where_19 d_DotBook_where_22 ⟨rfl, by omega, rfl⟩
set_option maxRecDepth 100000 in
set_option maxHeartbeats 4000000 in
theorem c_DotBook_heading (l : Launch) (D : va_G) (Dt : Nat → ClassId) (b sz : Nat) (I : dz_Hp) (W T n : Int) (g : Int → Int) (c : Nat) (S : Nat → sp_Ru) (w : Int) (nb : Nat) (Bk : Nat → sp_Bk) (H : List Int) (CI : sp_CL b I W T n g c S w nb Bk H) (q : Int) (hq : -2147483648 ≤ q ∧ q < 2147483648)  : ly_M l D Dt b sz y_DotBook_heading b_DotBook_heading 4 (some .int) 1 [.ref (b + 0), .int (dz_i q)] I (fun v I' => v = some (.int (dz_i (sp_hdg W Bk q nb 0 0))) ∧ I' = I) := by
  refine ly_enter R_DotBook (by decide) rfl (Nat.le_of_ble_eq_true rfl) (ly_cat _ 0 rfl) (fun κ x => ?_)
  have hN := ly_N x
  obtain ⟨⟨hW, hT⟩, TI, RI, hw1, KI, hnb, HB, HP, HI⟩ := id CI
  have hn9 := TI.nn
  have hc24 := RI.2.1
  have hbs := sp_bs_rng hW hT.1 nb (fun i hi => (HB i hi).2.2.2.2)
  have hHl := HI.2.1
  have loop : ∀ (k : Nat) (j : Nat) (bf : Int), (j + k = nb) → (0 ≤ bf ∧ bf ≤ (j : Int)) → (sp_hdg W Bk q k j bf = sp_hdg W Bk q nb 0 0) → ly_V κ b sz I 4 [(0, .ref (b + 0)), (1, .int (dz_i q)), (2, .int (dz_i bf)), (3, .int (dz_i (j : Int)))] [] := by
    intro k
    induction k with
    | zero =>
      intro j bf hj hbf hS
      refine dz_iload_n x.1 3 d_DotBook_heading_4 rfl rfl ?_
      refine dz_aload_n x.1 0 d_DotBook_heading_5 rfl rfl ?_
      refine dz_getr x.1 (ly_DotBook b) fl_DotBook_55 (lr_DotBook_4 b) d_DotBook_heading_6 ?_
      refine dz_geti (z := (nb : Int)) x.1 (ly_Book b) fl_DotBook_85 d_DotBook_heading_9 KI.2.2.2.1 ?_
      refine dz_icmp_ge (tgt := 62) x.1 d_DotBook_heading_12 (by decide) (by omega) (by omega) (fun hc12 => ?_) (fun hc12 => by exfalso; omega)
      refine dz_iconst x.1 d_DotBook_heading_62 ?_
      exact ly_iret x d_DotBook_heading_63 rfl ⟨by rw [← hS]; rfl, rfl⟩
    | succ k ih =>
      intro j bf hj hbf hS
      have hj12 : j < 12 := by omega
      have hBj := HB j (by omega)
      have hbl := sp_bl_ok hW hBj.2.2.2.2.2.1
      have hkk := hBj.2.2.2.2.1
      refine dz_iload_n x.1 3 d_DotBook_heading_4 rfl rfl ?_
      refine dz_aload_n x.1 0 d_DotBook_heading_5 rfl rfl ?_
      refine dz_getr x.1 (ly_DotBook b) fl_DotBook_55 (lr_DotBook_4 b) d_DotBook_heading_6 ?_
      refine dz_geti (z := (nb : Int)) x.1 (ly_Book b) fl_DotBook_85 d_DotBook_heading_9 KI.2.2.2.1 ?_
      refine dz_icmp_ge (tgt := 62) x.1 d_DotBook_heading_12 (by decide) (by omega) (by omega) (fun hc12 => by exfalso; omega) (fun hc12 => ?_)
      refine dz_aload_n x.1 0 d_DotBook_heading_15 rfl rfl ?_
      refine dz_getr x.1 (ly_DotBook b) fl_DotBook_55 (lr_DotBook_4 b) d_DotBook_heading_16 ?_
      refine dz_getr x.1 (ly_Book b) fl_DotBook_86 (lr_Book_3 b) d_DotBook_heading_19 ?_
      refine dz_iload_n x.1 3 d_DotBook_heading_22 rfl rfl ?_
      refine dz_aald4 x.1 (ly_BlockArr b) (by decide) (by omega) (lr_BlockArr b hj12) d_DotBook_heading_23 ?_
      refine dz_geti (z := (Bk j).1) x.1 (ly_Block b hj12) fl_DotBook_147 d_DotBook_heading_24 (HB j (by omega)).1 ?_
      refine dz_iconst x.1 d_DotBook_heading_27 ?_
      refine dz_icmp_ne (tgt := 56) x.1 d_DotBook_heading_28 (by decide) (by omega) (by omega) (fun hc28 => ?_) (fun hc28 => ?_)
      · refine dz_iinc (z := (j : Int) + 1) (ls' := [(0, .ref (b + 0)), (1, .int (dz_i q)), (2, .int (dz_i bf)), (3, .int (dz_i ((j : Int) + 1)))]) x.1 3 d_DotBook_heading_56 rfl hN (by decide) (by omega) rfl ?_
        refine dz_goto (tgt := 4) x.1 d_DotBook_heading_59 (by decide) ?_
        have h9 := ih (j + 1) bf (by omega) (by omega) (by rw [← hS]; simp only [sp_hdg]; rw [if_neg (by intro h; first | exact hc28 h.1 | omega)])
        rw [show ((j + 1 : Nat) : Int) = (j : Int) + 1 by omega] at h9
        exact h9
      · refine dz_aload_n x.1 0 d_DotBook_heading_31 rfl rfl ?_
        refine dz_getr x.1 (ly_DotBook b) fl_DotBook_55 (lr_DotBook_4 b) d_DotBook_heading_32 ?_
        refine dz_getr x.1 (ly_Book b) fl_DotBook_86 (lr_Book_3 b) d_DotBook_heading_35 ?_
        refine dz_iload_n x.1 3 d_DotBook_heading_38 rfl rfl ?_
        refine dz_aald4 x.1 (ly_BlockArr b) (by decide) (by omega) (lr_BlockArr b hj12) d_DotBook_heading_39 ?_
        refine dz_geti (z := ((sp_bl W (Bk j)).length : Int)) x.1 (ly_Block b hj12) fl_DotBook_138 d_DotBook_heading_40 (HB j (by omega)).2.2.1.1 ?_
        refine dz_if_le (tgt := 56) x.1 d_DotBook_heading_43 (by decide) (by omega) (fun hc43 => ?_) (fun hc43 => ?_)
        · refine dz_iinc (z := (j : Int) + 1) (ls' := [(0, .ref (b + 0)), (1, .int (dz_i q)), (2, .int (dz_i bf)), (3, .int (dz_i ((j : Int) + 1)))]) x.1 3 d_DotBook_heading_56 rfl hN (by decide) (by omega) rfl ?_
          refine dz_goto (tgt := 4) x.1 d_DotBook_heading_59 (by decide) ?_
          have h9 := ih (j + 1) bf (by omega) (by omega) (by rw [← hS]; simp only [sp_hdg]; rw [if_neg (by intro h; first | exact hc28 h.1 | omega)])
          rw [show ((j + 1 : Nat) : Int) = (j : Int) + 1 by omega] at h9
          exact h9
        · refine dz_iload_n x.1 2 d_DotBook_heading_46 rfl rfl ?_
          refine dz_iload_n x.1 1 d_DotBook_heading_47 rfl rfl ?_
          refine dz_icmp_ne (tgt := 53) x.1 d_DotBook_heading_48 (by decide) (by omega) (by omega) (fun hc48 => ?_) (fun hc48 => ?_)
          · refine dz_iinc (z := bf + 1) (ls' := [(0, .ref (b + 0)), (1, .int (dz_i q)), (2, .int (dz_i (bf + 1))), (3, .int (dz_i (j : Int)))]) x.1 2 d_DotBook_heading_53 rfl hN (by decide) (by omega) rfl ?_
            refine dz_iinc (z := (j : Int) + 1) (ls' := [(0, .ref (b + 0)), (1, .int (dz_i q)), (2, .int (dz_i (bf + 1))), (3, .int (dz_i ((j : Int) + 1)))]) x.1 3 d_DotBook_heading_56 rfl hN (by decide) (by omega) rfl ?_
            refine dz_goto (tgt := 4) x.1 d_DotBook_heading_59 (by decide) ?_
            have h9 := ih (j + 1) (bf + 1) (by omega) (by omega) (by rw [← hS]; simp only [sp_hdg]; rw [if_pos ⟨hc28, by omega⟩, if_neg hc48])
            rw [show ((j + 1 : Nat) : Int) = (j : Int) + 1 by omega] at h9
            exact h9
          · refine dz_iload_n x.1 3 d_DotBook_heading_51 rfl rfl ?_
            exact ly_iret x d_DotBook_heading_52 rfl ⟨by rw [← hS]; simp only [sp_hdg]; rw [if_pos ⟨hc28, by omega⟩, if_pos hc48], rfl⟩
  show ly_V κ b sz I 0 [(0, .ref (b + 0)), (1, .int (dz_i q))] []
  refine dz_iconst x.1 d_DotBook_heading_0 ?_
  refine dz_istore_n (ls' := [(0, .ref (b + 0)), (1, .int (dz_i q)), (2, .int (dz_i 0))]) x.1 d_DotBook_heading_1 rfl hN (by decide) rfl ?_
  refine dz_iconst x.1 d_DotBook_heading_2 ?_
  refine dz_istore_n (ls' := [(0, .ref (b + 0)), (1, .int (dz_i q)), (2, .int (dz_i 0)), (3, .int (dz_i 0))]) x.1 d_DotBook_heading_3 rfl hN (by decide) rfl ?_
  exact loop nb 0 0 (by omega) (by omega) rfl
set_option maxRecDepth 100000 in
set_option maxHeartbeats 4000000 in
theorem c_DotBook_at (l : Launch) (hst9 : l.stackTraces = false) (D : va_G) (Dt : Nat → ClassId) (b sz : Nat) (I : dz_Hp) (W T n : Int) (g : Int → Int) (c : Nat) (S : Nat → sp_Ru) (w : Int) (nb : Nat) (Bk : Nat → sp_Bk) (H : List Int) (CI : sp_CL b I W T n g c S w nb Bk H) (p : Int) (hp : -2147483648 ≤ p ∧ p < 2147483648) (l9 : Int) (hl9 : -2147483648 ≤ l9 ∧ l9 < 2147483648) (pl : Int) (hpl : -2147483648 ≤ pl ∧ pl < 2147483648)  : ly_CX l D Dt b sz y_DotBook_at b_DotBook_at 4 (some .int) 7 [.ref (b + 0), .int (dz_i p), .int (dz_i l9), .int (dz_i pl)] I (fun v I' => v = some (.int (dz_i (if l9 = T then sp_num W p pl else sp_atx W T Bk nb p l9 pl))) ∧ (1 ≤ p ∧ p ≤ (sp_bs W T Bk nb).2.2 ∧ 0 ≤ l9 ∧ l9 ≤ T ∧ 0 ≤ pl ∧ pl < W) ∧ I' = I) (fun E I' => E = xc_IOB ∧ ¬ (1 ≤ p ∧ p ≤ (sp_bs W T Bk nb).2.2 ∧ 0 ≤ l9 ∧ l9 ≤ T ∧ 0 ≤ pl ∧ pl < W) ∧ I' = I) := by
  refine ly_enterX hst9 R_DotBook (by decide) rfl (Nat.le_of_ble_eq_true rfl) (ly_cat _ 0 rfl) (fun κ x => ?_)
  have hN := ly_NX x
  obtain ⟨⟨hW, hT⟩, TI, RI, hw1, KI, hnb, HB, HP, HI⟩ := id CI
  have hn9 := TI.nn
  have hc24 := RI.2.1
  have hbs := sp_bs_rng hW hT.1 nb (fun i hi => (HB i hi).2.2.2.2)
  have hHl := HI.2.1
  show ly_V κ b sz I 0 [(0, .ref (b + 0)), (1, .int (dz_i p)), (2, .int (dz_i l9)), (3, .int (dz_i pl))] []
  refine dz_iload_n x.1 1 d_DotBook_at_0 rfl rfl ?_
  refine dz_iconst x.1 d_DotBook_at_1 ?_
  refine dz_icmp_lt (tgt := 46) x.1 d_DotBook_at_2 (by decide) (by omega) (by omega) (fun hc2 => ?_) (fun hc2 => ?_)
  · exact ly_IOB x (by decide) d_DotBook_at_46 d_DotBook_at_49 d_DotBook_at_50 d_DotBook_at_53 ⟨rfl, by omega, rfl⟩
  · refine dz_iload_n x.1 1 d_DotBook_at_5 rfl rfl ?_
    refine dz_aload_n x.1 0 d_DotBook_at_6 rfl rfl ?_
    refine dz_getr x.1 (ly_DotBook b) fl_DotBook_55 (lr_DotBook_4 b) d_DotBook_at_7 ?_
    refine dz_geti (z := (sp_bs W T Bk nb).2.2) x.1 (ly_Book b) fl_DotBook_119 d_DotBook_at_10 KI.2.2.2.2.2.2 ?_
    refine dz_icmp_gt (tgt := 46) x.1 d_DotBook_at_13 (by decide) (by omega) (by omega) (fun hc13 => ?_) (fun hc13 => ?_)
    · exact ly_IOB x (by decide) d_DotBook_at_46 d_DotBook_at_49 d_DotBook_at_50 d_DotBook_at_53 ⟨rfl, by omega, rfl⟩
    · refine dz_iload_n x.1 2 d_DotBook_at_16 rfl rfl ?_
      refine dz_if_lt (tgt := 46) x.1 d_DotBook_at_17 (by decide) (by omega) (fun hc17 => ?_) (fun hc17 => ?_)
      · exact ly_IOB x (by decide) d_DotBook_at_46 d_DotBook_at_49 d_DotBook_at_50 d_DotBook_at_53 ⟨rfl, by omega, rfl⟩
      · refine dz_iload_n x.1 2 d_DotBook_at_20 rfl rfl ?_
        refine dz_aload_n x.1 0 d_DotBook_at_21 rfl rfl ?_
        refine dz_getr x.1 (ly_DotBook b) fl_DotBook_55 (lr_DotBook_4 b) d_DotBook_at_22 ?_
        refine dz_geti (z := T + 1) x.1 (ly_Book b) fl_DotBook_122 d_DotBook_at_25 KI.2.1 ?_
        refine dz_icmp_ge (tgt := 46) x.1 d_DotBook_at_28 (by decide) (by omega) (by omega) (fun hc28 => ?_) (fun hc28 => ?_)
        · exact ly_IOB x (by decide) d_DotBook_at_46 d_DotBook_at_49 d_DotBook_at_50 d_DotBook_at_53 ⟨rfl, by omega, rfl⟩
        · refine dz_iload_n x.1 3 d_DotBook_at_31 rfl rfl ?_
          refine dz_if_lt (tgt := 46) x.1 d_DotBook_at_32 (by decide) (by omega) (fun hc32 => ?_) (fun hc32 => ?_)
          · exact ly_IOB x (by decide) d_DotBook_at_46 d_DotBook_at_49 d_DotBook_at_50 d_DotBook_at_53 ⟨rfl, by omega, rfl⟩
          · refine dz_iload_n x.1 3 d_DotBook_at_35 rfl rfl ?_
            refine dz_aload_n x.1 0 d_DotBook_at_36 rfl rfl ?_
            refine dz_getr x.1 (ly_DotBook b) fl_DotBook_55 (lr_DotBook_4 b) d_DotBook_at_37 ?_
            refine dz_geti (z := W) x.1 (ly_Book b) fl_DotBook_125 d_DotBook_at_40 KI.1 ?_
            refine dz_icmp_lt (tgt := 54) x.1 d_DotBook_at_43 (by decide) (by omega) (by omega) (fun hc43 => ?_) (fun hc43 => ?_)
            · refine dz_iload_n x.1 2 d_DotBook_at_54 rfl rfl ?_
              refine dz_aload_n x.1 0 d_DotBook_at_55 rfl rfl ?_
              refine dz_getr x.1 (ly_DotBook b) fl_DotBook_55 (lr_DotBook_4 b) d_DotBook_at_56 ?_
              refine dz_geti (z := T) x.1 (ly_Book b) fl_DotBook_128 d_DotBook_at_59 KI.2.2.1 ?_
              refine dz_icmp_ne (tgt := 77) x.1 d_DotBook_at_62 (by decide) (by omega) (by omega) (fun hc62 => ?_) (fun hc62 => ?_)
              · have hBB : sp_BB b I nb W (fun j => (Bk j).1) (fun j => sp_bl W (Bk j)) (fun j => I (b + (82 + 4 * j)) 7) (fun j => I (b + (82 + 4 * j)) 8) := ⟨hnb, fun j hj => by
                  have hBj := HB j hj
                  have hbl := sp_bl_ok hW hBj.2.2.2.2.2.1
                  have hPj := HP j (by omega)
                  exact ⟨hBj.1, hBj.2.2.2.2.1, hBj.2.2.1, hbl.1, hbl.2.1, fun q hq => by have h9 := (hbl.2.2 q hq).2; have h8 := sp_ind_rng (Bk j).1 (q : Int); show (((sp_bl W (Bk j)).getD q []).length : Int) ≤ W; omega, rfl, rfl, hPj.1, hPj.2⟩⟩
                have hcx : sp_ctx (sp_fnd W T (fun j => (Bk j).1) (fun j => sp_bl W (Bk j)) (fun j => I (b + (82 + 4 * j)) 7) (fun j => I (b + (82 + 4 * j)) 8) p l9 pl) nb 0 = sp_atx W T Bk nb p l9 pl := by
                  refine sp_ctx_congr nb 0 (fun j h1 h2 => ?_)
                  have hBj := HB j (by omega)
                  by_cases hz : 0 < (sp_bl W (Bk j)).length
                  · unfold sp_fnd
                    simp only
                    rw [(hBj.2.2.2.1 hz).1, (hBj.2.2.2.1 hz).2]
                  · unfold sp_fnd
                    simp only
                    rw [if_neg (by omega), if_neg (by omega)]
                refine dz_aload_n x.1 0 d_DotBook_at_77 rfl rfl ?_
                refine dz_getr x.1 (ly_DotBook b) fl_DotBook_55 (lr_DotBook_4 b) d_DotBook_at_78 ?_
                refine dz_iload_n x.1 1 d_DotBook_at_81 rfl rfl ?_
                refine dz_iload_n x.1 2 d_DotBook_at_82 rfl rfl ?_
                refine dz_iload_n x.1 3 d_DotBook_at_83 rfl rfl ?_
                refine ly_callVX (rest := []) x cl_DotBook_134 (by have h9 := c_Book_cellOfText l D Dt b sz I W T (nb : Int) _ _ _ KI hT hW (fun j => (Bk j).1) (fun j => sp_bl W (Bk j)) (fun j => I (b + (82 + 4 * j)) 7) (fun j => I (b + (82 + 4 * j)) 8) nb rfl hBB p l9 pl (by omega) (by omega) (by omega); rw [hcx] at h9; exact h9) (by decide) (ly_Book b) rfl rfl rfl rfl (Nat.le_of_ble_eq_true rfl) d_DotBook_at_84 (fun v I' hp84 => ?_)
                obtain ⟨rfl, hp84I⟩ := hp84
                have hp84I := hp84I.symm
                subst hp84I
                show ly_V κ b sz I 87 [(0, .ref (b + 0)), (1, .int (dz_i p)), (2, .int (dz_i l9)), (3, .int (dz_i pl))] [.int (dz_i (sp_atx W T Bk nb p l9 pl))]
                have hv9 : (if l9 = T then sp_num W p pl else sp_atx W T Bk nb p l9 pl) = (sp_atx W T Bk nb p l9 pl) := if_neg hc62
                exact ly_iretX x d_DotBook_at_87 rfl ⟨by rw [hv9], by omega, rfl⟩
              · refine dz_aload_n x.1 0 d_DotBook_at_65 rfl rfl ?_
                refine dz_getr x.1 (ly_DotBook b) fl_DotBook_55 (lr_DotBook_4 b) d_DotBook_at_66 ?_
                refine dz_iload_n x.1 1 d_DotBook_at_69 rfl rfl ?_
                refine dz_iload_n x.1 3 d_DotBook_at_70 rfl rfl ?_
                refine ly_callVX (rest := []) x cl_DotBook_131 (c_Book_cellOfNumber l D Dt b sz I W T (nb : Int) _ _ _ KI hW p pl (by omega) (by omega)) (by decide) (ly_Book b) rfl rfl rfl rfl (Nat.le_of_ble_eq_true rfl) d_DotBook_at_71 (fun v I' hp71 => ?_)
                obtain ⟨rfl, hp71I⟩ := hp71
                have hp71I := hp71I.symm
                subst hp71I
                show ly_V κ b sz I 74 [(0, .ref (b + 0)), (1, .int (dz_i p)), (2, .int (dz_i l9)), (3, .int (dz_i pl))] [.int (dz_i (sp_num W p pl))]
                refine dz_goto (tgt := 87) x.1 d_DotBook_at_74 (by decide) ?_
                have hv9 : (if l9 = T then sp_num W p pl else sp_atx W T Bk nb p l9 pl) = (sp_num W p pl) := if_pos hc62
                exact ly_iretX x d_DotBook_at_87 rfl ⟨by rw [hv9], by omega, rfl⟩
            · exact ly_IOB x (by decide) d_DotBook_at_46 d_DotBook_at_49 d_DotBook_at_50 d_DotBook_at_53 ⟨rfl, by omega, rfl⟩
