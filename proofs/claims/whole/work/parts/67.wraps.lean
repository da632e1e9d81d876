theorem sp_CL.lo {b : Nat} {I J : dz_Hp} {W T n : Int} {g : Int → Int} {c : Nat} {S : Nat → sp_Ru} {w : Int} {nb : Nat} {Bk : Nat → sp_Bk} {H : List Int} (C : sp_CL b I W T n g c S w nb Bk H) (k : ∀ q, q < b + 130 → J q = I q) : sp_CL b J W T n g c S w nb Bk H := by
  obtain ⟨a1, a2, a3, a4, a5, a6, a7, a8, a9⟩ := C
  refine ⟨a1, a2.fr (k _ (by omega)) (k _ (by omega)), a3.fr (by rw [k _ (by omega)]) (fun q h1 h2 => k q (by omega)), by rw [k _ (by omega)]; exact a4, a5.fr (k _ (by omega)), a6, fun j hj => (a7 j hj).fr (k _ (by omega)) (k _ (by omega)) (k _ (by omega)) (k _ (by omega)), fun j hj => by rw [k _ (by omega)]; exact a8 j hj, a9.fr (by rw [k _ (by omega)]) (k _ (by omega))⟩
theorem sp_MO.hi {b : Nat} {I J : dz_Hp} {W T n : Int} {g : Int → Int} {c : Nat} {S : Nat → sp_Ru} {w : Int} {nb : Nat} {Bk : Nat → sp_Bk} {H : List Int} (M : sp_MO b I W T n g c S w nb Bk H) (k : ∀ q, b + 130 ≤ q → q < b + 145 → J q = I q) : sp_MO b J W T n g c S w nb Bk H :=
  M.scr (fun k9 _ => by rw [k _ (by omega) (by omega)]) (fun q h1 h2 => k q (by omega) (by omega))
theorem dz_am_Nc {κ : dz_Kx} {cc : ByteArray} {own : String} (am : dz_Am κ cc own) : va_Nc xc_ISE xc_IAE (dz_s κ) := by
  obtain ⟨p, l, e, R, s, m, args, below, meth, c, Q, D, Dt, A, nL⟩ := κ
  exact am.2.2.2.2.2.1.2.2.2.2.1
theorem dz_dd_N {κ : dz_Kx} {l : Launch} {D : va_G} {Dt : Nat → ClassId} {nL : Nat} (h : dz_Dd κ l D Dt nL) : dz_n κ = nL := by
  obtain ⟨p, l', e, R, s, m, args, below, meth, c, Q, D', Dt', A, nL'⟩ := κ
  exact h.2.2.2
theorem lk_IAE : Cond.classLink R_Law 13 xc_IAE ∈ dz_GW := dz_g2 54 rfl rfl
theorem lk_ISE : Cond.classLink R_Law 15 xc_ISE ∈ dz_GW := dz_g2 55 rfl rfl
theorem lk_IOB : Cond.classLink R_Law 28 xc_IOB ∈ dz_GW := dz_g3 171 rfl rfl
theorem cs_IAE : Cond.castable xc_IAE xc_IAE ∈ dz_NW := dz_n2 62 rfl rfl
theorem cs_ISE : Cond.castable xc_ISE xc_ISE ∈ dz_NW := dz_n2 125 rfl rfl
theorem cs_IOB : Cond.castable xc_IOB xc_IOB ∈ dz_NW := dz_n3 178 rfl rfl
def sp_FL2 (b : Nat) (I J : dz_Hp) : Prop := sp_fr I J (fun q => q < b + 130 ∨ q = b + 145)
theorem sp_FL2.rf {b : Nat} {I : dz_Hp} : sp_FL2 b I I := sp_fr.rf
theorem sp_FL2.of {b : Nat} {I J : dz_Hp} (h : sp_fr I J (fun q => q < b + 130)) : sp_FL2 b I J := h.mono (fun q hq => Or.inl hq)
theorem sp_FL2.put {b : Nat} {I J : dz_Hp} (h : sp_FL2 b I J) (v : Int) : sp_FL2 b I (dz_up J (b + 145) 0 v) := h.up (Or.inr rfl)
theorem sp_CL.out {b : Nat} {I : dz_Hp} {W T n : Int} {g : Int → Int} {c : Nat} {S : Nat → sp_Ru} {w : Int} {nb : Nat} {Bk : Nat → sp_Bk} {H : List Int} (C : sp_CL b I W T n g c S w nb Bk H) (v : Int) : sp_CL b (dz_up I (b + 145) 0 v) W T n g c S w nb Bk H := C.lo (fun q hq => dz_up_n _ _ _ (by omega))
theorem cw_Law_55 : dz_Cw R_Law 55 y_Law_type b_Law_type 4 (some .int) [(0, 9, 12, 13), (0, 9, 15, 15)] 3 := ⟨dz_g2 51 rfl rfl, dz_g2 53 rfl rfl, dz_g1 0 rfl rfl, by decide, ⟨by decide, by decide, by decide +kernel⟩, dz_g2 52 rfl rfl⟩
set_option maxRecDepth 100000 in
set_option maxHeartbeats 4000000 in
theorem c_Law_type (l : Launch) (hst9 : l.stackTraces = false) (D : va_G) (Dt : Nat → ClassId) (b sz : Nat) (I : dz_Hp) (W T n : Int) (g : Int → Int) (c : Nat) (S : Nat → sp_Ru) (w : Int) (nb : Nat) (Bk : Nat → sp_Bk) (H : List Int) (CI : sp_CL b I W T n g c S w nb Bk H) (ch : Int) (hch : 0 ≤ ch ∧ ch < 65536) : dz_CW l D Dt y_Law_type b_Law_type 4 (some .int) [(0, 9, 12, 13), (0, 9, 15, 15)] 8 1 6 [.ref (b + 0), .int (dz_i ch), .ref (b + 145)] sz (ly_s b) (ly_r b) I (fun v sz' sk' rf' I' => (sz' = sz ∨ sz' = sz + 1) ∧ sk' = ly_s b ∧ rf' = ly_r b ∧ ((v = some (.int (dz_i 0)) ∧ (¬ (ch < 32 ∨ 126 < ch) ∧ n < 80) ∧ I' (b + 145) 0 = n + 1 ∧ sp_CL b I' W T (n + 1) (dz_u g n ch) c S w nb Bk H ∧ sp_FL2 b I I') ∨ (v = some (.int (dz_i 1)) ∧ (ch < 32 ∨ 126 < ch) ∧ sp_CL b I' W T n g c S w nb Bk H ∧ sp_FL2 b I I') ∨ (v = some (.int (dz_i 2)) ∧ (¬ (ch < 32 ∨ 126 < ch) ∧ 80 ≤ n) ∧ sp_CL b I' W T n g c S w nb Bk H ∧ sp_FL2 b I I'))) := by
  refine dz_enterW R_Law (by decide) rfl (Nat.le_of_ble_eq_true rfl) (ly_cat _ 0 rfl) (fun κ am dd rt rm tb => ?_)
  have hN := dz_dd_N dd
  refine dz_aload_n am 2 d_Law_type_0 rfl rfl ?_
  refine dz_iconst am d_Law_type_1 ?_
  refine dz_aload_n am 0 d_Law_type_2 rfl rfl ?_
  refine dz_iload_n am 1 d_Law_type_3 rfl rfl ?_
  refine dz_callX (rest := [.int (dz_i 0), .ref (b + 145)]) am dd rm tb cl_Law_7 (c_DotBook_type l hst9 D Dt b sz I W T n g c S w nb Bk H CI ch hch) (by decide) (by decide) (by decide) (ly_DotBook b) rfl rfl rfl rfl (Nat.le_of_ble_eq_true rfl) d_Law_type_4 (fun v sz' sk' rf' I' h => ?_) (fun E x sz' sk' rf' I' h => ?_)
  · obtain ⟨rfl, rfl, rfl, h⟩ := h
    obtain ⟨rfl, h1, h2, hC, hF⟩ := h
    have hF := sp_FL2.of hF
    refine dz_i2l am d_Law_type_7 ?_
    refine dz_last am (ly_Out b) (by decide) (by decide) d_Law_type_8 ?_
    refine dz_goto (tgt := 18) am d_Law_type_9 (by decide) ?_
    refine dz_iconst am d_Law_type_18 ?_
    exact dz_iret am rt rfl d_Law_type_19 ⟨Or.inl rfl, rfl, rfl, Or.inl ⟨rfl, ⟨h1, h2⟩, dz_up_s _ _ _ _, hC.out _, hF.put _⟩⟩
  · obtain ⟨rfl, rfl, rfl, h⟩ := h
    rcases h with ⟨⟨rfl, hb⟩ | ⟨rfl, hb⟩, rfl⟩
    · refine ⟨12, ⟨[], (0, 9, 12, 13), [(0, 9, 15, 15)], rfl, fun z hz => (by cases hz), by decide, by decide, by decide, ⟨_, lk_IAE, cs_IAE⟩, rfl⟩, ?_⟩
      refine dz_astore_n (ls' := [(0, .ref (b + 0)), (1, .int (dz_i ch)), (2, .ref (b + 145)), (3, .ref x)]) am d_Law_type_12 rfl hN (by decide) rfl ?_
      refine dz_iconst am d_Law_type_13 ?_
      exact dz_iret am rt rfl d_Law_type_14 ⟨Or.inr rfl, rfl, rfl, Or.inr (Or.inl ⟨rfl, hb, CI, sp_FL2.rf⟩)⟩
    · refine ⟨15, ⟨[(0, 9, 12, 13)], (0, 9, 15, 15), [], rfl, fun z hz => (by rcases List.mem_singleton.mp hz with rfl; exact ⟨by decide, by decide, by decide, _, lk_IAE, dz_am_Nc am⟩), by decide, by decide, by decide, ⟨_, lk_ISE, cs_ISE⟩, rfl⟩, ?_⟩
      refine dz_astore_n (ls' := [(0, .ref (b + 0)), (1, .int (dz_i ch)), (2, .ref (b + 145)), (3, .ref x)]) am d_Law_type_15 rfl hN (by decide) rfl ?_
      refine dz_iconst am d_Law_type_16 ?_
      exact dz_iret am rt rfl d_Law_type_17 ⟨Or.inr rfl, rfl, rfl, Or.inr (Or.inr (⟨rfl, hb, CI, sp_FL2.rf⟩))⟩
theorem cw_Law_67 : dz_Cw R_Law 67 y_Law_rules b_Law_rules 4 (some .int) [(0, 9, 12, 13)] 3 := ⟨dz_g2 142 rfl rfl, dz_g2 144 rfl rfl, dz_g1 0 rfl rfl, by decide, ⟨by decide, by decide, by decide +kernel⟩, dz_g2 143 rfl rfl⟩
set_option maxRecDepth 100000 in
set_option maxHeartbeats 4000000 in
theorem c_Law_rules (l : Launch) (hst9 : l.stackTraces = false) (D : va_G) (Dt : Nat → ClassId) (b sz : Nat) (I : dz_Hp) (W T n : Int) (g : Int → Int) (c : Nat) (S : Nat → sp_Ru) (w : Int) (nb : Nat) (Bk : Nat → sp_Bk) (H : List Int) (CI : sp_CL b I W T n g c S w nb Bk H) (a : Bool) (X : Int × Nat × (Nat → sp_Ru)) (hX : X = sp_tk g n (n + 1).toNat 0 0 0 (-1) c S) : dz_CW l D Dt y_Law_rules b_Law_rules 4 (some .int) [(0, 9, 12, 13)] 10 1 6 [.ref (b + 0), .int (dz_i (if a = true then 1 else 0)), .ref (b + 145)] sz (ly_s b) (ly_r b) I (fun v sz' sk' rf' I' => (sz' = sz ∨ sz' = sz + 1) ∧ sk' = ly_s b ∧ rf' = ly_r b ∧ ((v = some (.int (dz_i 0)) ∧ (X.1 = -1 ∨ a = true) ∧ I' (b + 145) 0 = (X.2.1 : Int) ∧ sp_CL b I' W T 0 (fun _ => 0) X.2.1 X.2.2 X.1 nb Bk H ∧ sp_FL2 b I I') ∨ (v = some (.int (dz_i 1)) ∧ ¬ (X.1 = -1 ∨ a = true) ∧ sp_CL b I' W T n g c S X.1 nb Bk H ∧ sp_FL2 b I I'))) := by
  refine dz_enterW R_Law (by decide) rfl (Nat.le_of_ble_eq_true rfl) (ly_cat _ 0 rfl) (fun κ am dd rt rm tb => ?_)
  have hN := dz_dd_N dd
  refine dz_aload_n am 2 d_Law_rules_0 rfl rfl ?_
  refine dz_iconst am d_Law_rules_1 ?_
  refine dz_aload_n am 0 d_Law_rules_2 rfl rfl ?_
  refine dz_iload_n am 1 d_Law_rules_3 rfl rfl ?_
  refine dz_callX (rest := [.int (dz_i 0), .ref (b + 145)]) am dd rm tb cl_Law_17 (c_DotBook_rules l hst9 D Dt b sz I W T n g c S w nb Bk H CI a X hX) (by decide) (by decide) (by decide) (ly_DotBook b) rfl rfl rfl rfl (Nat.le_of_ble_eq_true rfl) d_Law_rules_4 (fun v sz' sk' rf' I' h => ?_) (fun E x sz' sk' rf' I' h => ?_)
  · obtain ⟨rfl, rfl, rfl, h⟩ := h
    obtain ⟨rfl, h1, hC, hF⟩ := h
    have hF := sp_FL2.of hF
    refine dz_i2l am d_Law_rules_7 ?_
    refine dz_last am (ly_Out b) (by decide) (by decide) d_Law_rules_8 ?_
    refine dz_goto (tgt := 15) am d_Law_rules_9 (by decide) ?_
    refine dz_iconst am d_Law_rules_15 ?_
    exact dz_iret am rt rfl d_Law_rules_16 ⟨Or.inl rfl, rfl, rfl, Or.inl ⟨rfl, h1, dz_up_s _ _ _ _, hC.out _, hF.put _⟩⟩
  · obtain ⟨rfl, rfl, rfl, h⟩ := h
    rcases h with ⟨rfl, hb, hC, hF⟩
    refine ⟨12, ⟨[], (0, 9, 12, 13), [], rfl, fun z hz => (by cases hz), by decide, by decide, by decide, ⟨_, lk_IAE, cs_IAE⟩, rfl⟩, ?_⟩
    refine dz_astore_n (ls' := [(0, .ref (b + 0)), (1, .int (dz_i (if a = true then 1 else 0))), (2, .ref (b + 145)), (3, .ref x)]) am d_Law_rules_12 rfl hN (by decide) rfl ?_
    refine dz_iconst am d_Law_rules_13 ?_
    exact dz_iret am rt rfl d_Law_rules_14 ⟨Or.inr rfl, rfl, rfl, Or.inr (⟨rfl, hb, hC, sp_FL2.of hF⟩)⟩
theorem cw_Law_75 : dz_Cw R_Law 75 y_Law_block b_Law_block 4 (some .int) [(0, 9, 12, 13), (0, 9, 15, 15)] 3 := ⟨dz_g3 33 rfl rfl, dz_g3 35 rfl rfl, dz_g1 0 rfl rfl, by decide, ⟨by decide, by decide, by decide +kernel⟩, dz_g3 34 rfl rfl⟩
set_option maxRecDepth 100000 in
set_option maxHeartbeats 4000000 in
theorem c_Law_block (l : Launch) (hst9 : l.stackTraces = false) (D : va_G) (Dt : Nat → ClassId) (b sz : Nat) (I : dz_Hp) (W T n : Int) (g : Int → Int) (c : Nat) (S : Nat → sp_Ru) (w : Int) (nb : Nat) (Bk : Nat → sp_Bk) (H : List Int) (CI : sp_CL b I W T n g c S w nb Bk H) (k : Int) (hk : -2147483648 ≤ k ∧ k < 2147483648) : dz_CW l D Dt y_Law_block b_Law_block 4 (some .int) [(0, 9, 12, 13), (0, 9, 15, 15)] 10 1 6 [.ref (b + 0), .int (dz_i k), .ref (b + 145)] sz (ly_s b) (ly_r b) I (fun v sz' sk' rf' I' => (sz' = sz ∨ sz' = sz + 1) ∧ sk' = ly_s b ∧ rf' = ly_r b ∧ ((v = some (.int (dz_i 0)) ∧ ((0 ≤ k ∧ k ≤ 3 ∧ sp_cb n g = true) ∧ nb < 12) ∧ I' (b + 145) 0 = (nb : Int) + 1 ∧ sp_CL b I' W T 0 (fun _ => 0) c S w (nb + 1) (sp_setB Bk nb (k, (if k = 3 then [] else sp_tr g c S n.toNat 0))) H ∧ sp_FL2 b I I') ∨ (v = some (.int (dz_i 1)) ∧ ¬ (0 ≤ k ∧ k ≤ 3 ∧ sp_cb n g = true) ∧ sp_CL b I' W T n g c S w nb Bk H ∧ sp_FL2 b I I') ∨ (v = some (.int (dz_i 2)) ∧ ((0 ≤ k ∧ k ≤ 3 ∧ sp_cb n g = true) ∧ 12 ≤ nb) ∧ sp_CL b I' W T n g c S w nb Bk H ∧ sp_FL2 b I I'))) := by
  refine dz_enterW R_Law (by decide) rfl (Nat.le_of_ble_eq_true rfl) (ly_cat _ 0 rfl) (fun κ am dd rt rm tb => ?_)
  have hN := dz_dd_N dd
  refine dz_aload_n am 2 d_Law_block_0 rfl rfl ?_
  refine dz_iconst am d_Law_block_1 ?_
  refine dz_aload_n am 0 d_Law_block_2 rfl rfl ?_
  refine dz_iload_n am 1 d_Law_block_3 rfl rfl ?_
  refine dz_callX (rest := [.int (dz_i 0), .ref (b + 145)]) am dd rm tb cl_Law_21 (c_DotBook_block l hst9 D Dt b sz I W T n g c S w nb Bk H CI k hk) (by decide) (by decide) (by decide) (ly_DotBook b) rfl rfl rfl rfl (Nat.le_of_ble_eq_true rfl) d_Law_block_4 (fun v sz' sk' rf' I' h => ?_) (fun E x sz' sk' rf' I' h => ?_)
  · obtain ⟨rfl, rfl, rfl, h⟩ := h
    obtain ⟨rfl, h1, h2, hC, hF⟩ := h
    have hF := sp_FL2.of hF
    refine dz_i2l am d_Law_block_7 ?_
    refine dz_last am (ly_Out b) (by decide) (by decide) d_Law_block_8 ?_
    refine dz_goto (tgt := 18) am d_Law_block_9 (by decide) ?_
    refine dz_iconst am d_Law_block_18 ?_
    exact dz_iret am rt rfl d_Law_block_19 ⟨Or.inl rfl, rfl, rfl, Or.inl ⟨rfl, ⟨h1, h2⟩, dz_up_s _ _ _ _, hC.out _, hF.put _⟩⟩
  · obtain ⟨rfl, rfl, rfl, h⟩ := h
    rcases h with ⟨⟨rfl, hb⟩ | ⟨rfl, hb⟩, rfl⟩
    · refine ⟨12, ⟨[], (0, 9, 12, 13), [(0, 9, 15, 15)], rfl, fun z hz => (by cases hz), by decide, by decide, by decide, ⟨_, lk_IAE, cs_IAE⟩, rfl⟩, ?_⟩
      refine dz_astore_n (ls' := [(0, .ref (b + 0)), (1, .int (dz_i k)), (2, .ref (b + 145)), (3, .ref x)]) am d_Law_block_12 rfl hN (by decide) rfl ?_
      refine dz_iconst am d_Law_block_13 ?_
      exact dz_iret am rt rfl d_Law_block_14 ⟨Or.inr rfl, rfl, rfl, Or.inr (Or.inl ⟨rfl, hb, CI, sp_FL2.rf⟩)⟩
    · refine ⟨15, ⟨[(0, 9, 12, 13)], (0, 9, 15, 15), [], rfl, fun z hz => (by rcases List.mem_singleton.mp hz with rfl; exact ⟨by decide, by decide, by decide, _, lk_IAE, dz_am_Nc am⟩), by decide, by decide, by decide, ⟨_, lk_ISE, cs_ISE⟩, rfl⟩, ?_⟩
      refine dz_astore_n (ls' := [(0, .ref (b + 0)), (1, .int (dz_i k)), (2, .ref (b + 145)), (3, .ref x)]) am d_Law_block_15 rfl hN (by decide) rfl ?_
      refine dz_iconst am d_Law_block_16 ?_
      exact dz_iret am rt rfl d_Law_block_17 ⟨Or.inr rfl, rfl, rfl, Or.inr (Or.inr (⟨rfl, hb, CI, sp_FL2.rf⟩))⟩
theorem cw_Law_79 : dz_Cw R_Law 79 y_Law_size b_Law_size 4 (some .int) [(0, 9, 12, 28)] 3 := ⟨dz_g3 168 rfl rfl, dz_g3 170 rfl rfl, dz_g1 0 rfl rfl, by decide, ⟨by decide, by decide, by decide +kernel⟩, dz_g3 169 rfl rfl⟩
set_option maxRecDepth 100000 in
set_option maxHeartbeats 4000000 in
theorem c_Law_size (l : Launch) (hst9 : l.stackTraces = false) (D : va_G) (Dt : Nat → ClassId) (b sz : Nat) (I : dz_Hp) (W T n : Int) (g : Int → Int) (c : Nat) (S : Nat → sp_Ru) (w : Int) (nb : Nat) (Bk : Nat → sp_Bk) (H : List Int) (CI : sp_CL b I W T n g c S w nb Bk H) (q : Int) (hq : -2147483648 ≤ q ∧ q < 2147483648) : dz_CW l D Dt y_Law_size b_Law_size 4 (some .int) [(0, 9, 12, 28)] 8 1 6 [.ref (b + 0), .int (dz_i q), .ref (b + 145)] sz (ly_s b) (ly_r b) I (fun v sz' sk' rf' I' => (sz' = sz ∨ sz' = sz + 1) ∧ sk' = ly_s b ∧ rf' = ly_r b ∧ ((v = some (.int (dz_i 0)) ∧ (0 ≤ q ∧ q < (nb : Int)) ∧ I' (b + 145) 0 = ((Bk q.toNat).2.length : Int) ∧ sp_CL b I' W T n g c S w nb Bk H ∧ sp_FL2 b I I') ∨ (v = some (.int (dz_i 1)) ∧ ¬ (0 ≤ q ∧ q < (nb : Int)) ∧ sp_CL b I' W T n g c S w nb Bk H ∧ sp_FL2 b I I'))) := by
  refine dz_enterW R_Law (by decide) rfl (Nat.le_of_ble_eq_true rfl) (ly_cat _ 0 rfl) (fun κ am dd rt rm tb => ?_)
  have hN := dz_dd_N dd
  refine dz_aload_n am 2 d_Law_size_0 rfl rfl ?_
  refine dz_iconst am d_Law_size_1 ?_
  refine dz_aload_n am 0 d_Law_size_2 rfl rfl ?_
  refine dz_iload_n am 1 d_Law_size_3 rfl rfl ?_
  refine dz_callX (rest := [.int (dz_i 0), .ref (b + 145)]) am dd rm tb cl_Law_25 (c_DotBook_size l hst9 D Dt b sz I W T n g c S w nb Bk H CI q hq) (by decide) (by decide) (by decide) (ly_DotBook b) rfl rfl rfl rfl (Nat.le_of_ble_eq_true rfl) d_Law_size_4 (fun v sz' sk' rf' I' h => ?_) (fun E x sz' sk' rf' I' h => ?_)
  · obtain ⟨rfl, rfl, rfl, h⟩ := h
    obtain ⟨rfl, h1, hI⟩ := h
    subst hI
    have hC := CI
    have hF : sp_FL2 b I' I' := sp_FL2.rf
    refine dz_i2l am d_Law_size_7 ?_
    refine dz_last am (ly_Out b) (by decide) (by decide) d_Law_size_8 ?_
    refine dz_goto (tgt := 15) am d_Law_size_9 (by decide) ?_
    refine dz_iconst am d_Law_size_15 ?_
    exact dz_iret am rt rfl d_Law_size_16 ⟨Or.inl rfl, rfl, rfl, Or.inl ⟨rfl, h1, dz_up_s _ _ _ _, hC.out _, hF.put _⟩⟩
  · obtain ⟨rfl, rfl, rfl, h⟩ := h
    rcases h with ⟨rfl, hb, rfl⟩
    refine ⟨12, ⟨[], (0, 9, 12, 28), [], rfl, fun z hz => (by cases hz), by decide, by decide, by decide, ⟨_, lk_IOB, cs_IOB⟩, rfl⟩, ?_⟩
    refine dz_astore_n (ls' := [(0, .ref (b + 0)), (1, .int (dz_i q)), (2, .ref (b + 145)), (3, .ref x)]) am d_Law_size_12 rfl hN (by decide) rfl ?_
    refine dz_iconst am d_Law_size_13 ?_
    exact dz_iret am rt rfl d_Law_size_14 ⟨Or.inr rfl, rfl, rfl, Or.inr (⟨rfl, hb, CI, sp_FL2.rf⟩)⟩
theorem cw_Law_82 : dz_Cw R_Law 82 y_Law_cell_1 b_Law_cell_1 5 (some .int) [(0, 10, 13, 28)] 4 := ⟨dz_g3 191 rfl rfl, dz_g3 193 rfl rfl, dz_g1 0 rfl rfl, by decide, ⟨by decide, by decide, by decide +kernel⟩, dz_g3 192 rfl rfl⟩
set_option maxRecDepth 100000 in
set_option maxHeartbeats 4000000 in
theorem c_Law_cell_1 (l : Launch) (hst9 : l.stackTraces = false) (D : va_G) (Dt : Nat → ClassId) (b sz : Nat) (I : dz_Hp) (W T n : Int) (g : Int → Int) (c : Nat) (S : Nat → sp_Ru) (w : Int) (nb : Nat) (Bk : Nat → sp_Bk) (H : List Int) (CI : sp_CL b I W T n g c S w nb Bk H) (q : Int) (hq : -2147483648 ≤ q ∧ q < 2147483648) (i9 : Int) (hi9 : -2147483648 ≤ i9 ∧ i9 < 2147483648) : dz_CW l D Dt y_Law_cell_1 b_Law_cell_1 5 (some .int) [(0, 10, 13, 28)] 8 1 6 [.ref (b + 0), .int (dz_i q), .int (dz_i i9), .ref (b + 145)] sz (ly_s b) (ly_r b) I (fun v sz' sk' rf' I' => (sz' = sz ∨ sz' = sz + 1) ∧ sk' = ly_s b ∧ rf' = ly_r b ∧ ((v = some (.int (dz_i 0)) ∧ (0 ≤ q ∧ q < (nb : Int) ∧ 0 ≤ i9 ∧ i9 < ((Bk q.toNat).2.length : Int)) ∧ I' (b + 145) 0 = (((Bk q.toNat).2.getD i9.toNat (0, 0)).1 + 64 * ((Bk q.toNat).2.getD i9.toNat (0, 0)).2) ∧ sp_CL b I' W T n g c S w nb Bk H ∧ sp_FL2 b I I') ∨ (v = some (.int (dz_i 1)) ∧ ¬ (0 ≤ q ∧ q < (nb : Int) ∧ 0 ≤ i9 ∧ i9 < ((Bk q.toNat).2.length : Int)) ∧ sp_CL b I' W T n g c S w nb Bk H ∧ sp_FL2 b I I'))) := by
  refine dz_enterW R_Law (by decide) rfl (Nat.le_of_ble_eq_true rfl) (ly_cat _ 0 rfl) (fun κ am dd rt rm tb => ?_)
  have hN := dz_dd_N dd
  refine dz_aload_n am 3 d_Law_cell_1_0 rfl rfl ?_
  refine dz_iconst am d_Law_cell_1_1 ?_
  refine dz_aload_n am 0 d_Law_cell_1_2 rfl rfl ?_
  refine dz_iload_n am 1 d_Law_cell_1_3 rfl rfl ?_
  refine dz_iload_n am 2 d_Law_cell_1_4 rfl rfl ?_
  refine dz_callX (rest := [.int (dz_i 0), .ref (b + 145)]) am dd rm tb cl_Law_30 (c_DotBook_cell l hst9 D Dt b sz I W T n g c S w nb Bk H CI q hq i9 hi9) (by decide) (by decide) (by decide) (ly_DotBook b) rfl rfl rfl rfl (Nat.le_of_ble_eq_true rfl) d_Law_cell_1_5 (fun v sz' sk' rf' I' h => ?_) (fun E x sz' sk' rf' I' h => ?_)
  · obtain ⟨rfl, rfl, rfl, h⟩ := h
    obtain ⟨rfl, h1, hI⟩ := h
    subst hI
    have hC := CI
    have hF : sp_FL2 b I' I' := sp_FL2.rf
    refine dz_i2l am d_Law_cell_1_8 ?_
    refine dz_last am (ly_Out b) (by decide) (by decide) d_Law_cell_1_9 ?_
    refine dz_goto (tgt := 17) am d_Law_cell_1_10 (by decide) ?_
    refine dz_iconst am d_Law_cell_1_17 ?_
    exact dz_iret am rt rfl d_Law_cell_1_18 ⟨Or.inl rfl, rfl, rfl, Or.inl ⟨rfl, h1, dz_up_s _ _ _ _, hC.out _, hF.put _⟩⟩
  · obtain ⟨rfl, rfl, rfl, h⟩ := h
    rcases h with ⟨rfl, hb, rfl⟩
    refine ⟨13, ⟨[], (0, 10, 13, 28), [], rfl, fun z hz => (by cases hz), by decide, by decide, by decide, ⟨_, lk_IOB, cs_IOB⟩, rfl⟩, ?_⟩
    refine dz_astore (ls' := [(0, .ref (b + 0)), (1, .int (dz_i q)), (2, .int (dz_i i9)), (3, .ref (b + 145)), (4, .ref x)]) am d_Law_cell_1_13 hN (by decide) rfl ?_
    refine dz_iconst am d_Law_cell_1_15 ?_
    exact dz_iret am rt rfl d_Law_cell_1_16 ⟨Or.inr rfl, rfl, rfl, Or.inr (⟨rfl, hb, CI, sp_FL2.rf⟩)⟩
theorem cw_Law_86 : dz_Cw R_Law 86 y_Law_back b_Law_back 4 (some .int) [(0, 9, 12, 28)] 3 := ⟨dz_g3 198 rfl rfl, dz_g3 200 rfl rfl, dz_g1 0 rfl rfl, by decide, ⟨by decide, by decide, by decide +kernel⟩, dz_g3 199 rfl rfl⟩
set_option maxRecDepth 100000 in
set_option maxHeartbeats 4000000 in
theorem c_Law_back (l : Launch) (hst9 : l.stackTraces = false) (D : va_G) (Dt : Nat → ClassId) (b sz : Nat) (I : dz_Hp) (W T n : Int) (g : Int → Int) (c : Nat) (S : Nat → sp_Ru) (w : Int) (nb : Nat) (Bk : Nat → sp_Bk) (H : List Int) (CI : sp_CL b I W T n g c S w nb Bk H) (q : Int) (hq : -2147483648 ≤ q ∧ q < 2147483648) : dz_CW l D Dt y_Law_back b_Law_back 4 (some .int) [(0, 9, 12, 28)] 10 1 6 [.ref (b + 0), .int (dz_i q), .ref (b + 145)] sz (ly_s b) (ly_r b) I (fun v sz' sk' rf' I' => (sz' = sz ∨ sz' = sz + 1) ∧ sk' = ly_s b ∧ rf' = ly_r b ∧ ((v = some (.int (dz_i 0)) ∧ (0 ≤ q ∧ q < (nb : Int)) ∧ I' (b + 145) 0 = ((sp_bk (sp_oh (Bk q.toNat).2) c S (Bk q.toNat).2.length 0).length : Int) ∧ sp_CL b I' W T n g c S w nb Bk (sp_bk (sp_oh (Bk q.toNat).2) c S (Bk q.toNat).2.length 0) ∧ sp_FL2 b I I') ∨ (v = some (.int (dz_i 1)) ∧ ¬ (0 ≤ q ∧ q < (nb : Int)) ∧ sp_CL b I' W T n g c S w nb Bk H ∧ sp_FL2 b I I'))) := by
  refine dz_enterW R_Law (by decide) rfl (Nat.le_of_ble_eq_true rfl) (ly_cat _ 0 rfl) (fun κ am dd rt rm tb => ?_)
  have hN := dz_dd_N dd
  refine dz_aload_n am 2 d_Law_back_0 rfl rfl ?_
  refine dz_iconst am d_Law_back_1 ?_
  refine dz_aload_n am 0 d_Law_back_2 rfl rfl ?_
  refine dz_iload_n am 1 d_Law_back_3 rfl rfl ?_
  refine dz_callX (rest := [.int (dz_i 0), .ref (b + 145)]) am dd rm tb cl_Law_34 (c_DotBook_back l hst9 D Dt b sz I W T n g c S w nb Bk H CI q hq) (by decide) (by decide) (by decide) (ly_DotBook b) rfl rfl rfl rfl (Nat.le_of_ble_eq_true rfl) d_Law_back_4 (fun v sz' sk' rf' I' h => ?_) (fun E x sz' sk' rf' I' h => ?_)
  · obtain ⟨rfl, rfl, rfl, h⟩ := h
    obtain ⟨rfl, h1, hC, hF⟩ := h
    have hF := sp_FL2.of hF
    refine dz_i2l am d_Law_back_7 ?_
    refine dz_last am (ly_Out b) (by decide) (by decide) d_Law_back_8 ?_
    refine dz_goto (tgt := 15) am d_Law_back_9 (by decide) ?_
    refine dz_iconst am d_Law_back_15 ?_
    exact dz_iret am rt rfl d_Law_back_16 ⟨Or.inl rfl, rfl, rfl, Or.inl ⟨rfl, h1, dz_up_s _ _ _ _, hC.out _, hF.put _⟩⟩
  · obtain ⟨rfl, rfl, rfl, h⟩ := h
    rcases h with ⟨rfl, hb, rfl⟩
    refine ⟨12, ⟨[], (0, 9, 12, 28), [], rfl, fun z hz => (by cases hz), by decide, by decide, by decide, ⟨_, lk_IOB, cs_IOB⟩, rfl⟩, ?_⟩
    refine dz_astore_n (ls' := [(0, .ref (b + 0)), (1, .int (dz_i q)), (2, .ref (b + 145)), (3, .ref x)]) am d_Law_back_12 rfl hN (by decide) rfl ?_
    refine dz_iconst am d_Law_back_13 ?_
    exact dz_iret am rt rfl d_Law_back_14 ⟨Or.inr rfl, rfl, rfl, Or.inr (⟨rfl, hb, CI, sp_FL2.rf⟩)⟩
theorem cw_Law_98 : dz_Cw R_Law 98 y_Law_at b_Law_at 6 (some .int) [(0, 12, 15, 28)] 5 := ⟨dz_g4 37 rfl rfl, dz_g4 39 rfl rfl, dz_g1 0 rfl rfl, by decide, ⟨by decide, by decide, by decide +kernel⟩, dz_g4 38 rfl rfl⟩
set_option maxRecDepth 100000 in
set_option maxHeartbeats 4000000 in
theorem c_Law_at (l : Launch) (hst9 : l.stackTraces = false) (D : va_G) (Dt : Nat → ClassId) (b sz : Nat) (I : dz_Hp) (W T n : Int) (g : Int → Int) (c : Nat) (S : Nat → sp_Ru) (w : Int) (nb : Nat) (Bk : Nat → sp_Bk) (H : List Int) (CI : sp_CL b I W T n g c S w nb Bk H) (p : Int) (hp : -2147483648 ≤ p ∧ p < 2147483648) (l9 : Int) (hl9 : -2147483648 ≤ l9 ∧ l9 < 2147483648) (pl : Int) (hpl : -2147483648 ≤ pl ∧ pl < 2147483648) : dz_CW l D Dt y_Law_at b_Law_at 6 (some .int) [(0, 12, 15, 28)] 8 1 6 [.ref (b + 0), .int (dz_i p), .int (dz_i l9), .int (dz_i pl), .ref (b + 145)] sz (ly_s b) (ly_r b) I (fun v sz' sk' rf' I' => (sz' = sz ∨ sz' = sz + 1) ∧ sk' = ly_s b ∧ rf' = ly_r b ∧ ((v = some (.int (dz_i 0)) ∧ (1 ≤ p ∧ p ≤ (sp_bs W T Bk nb).2.2 ∧ 0 ≤ l9 ∧ l9 ≤ T ∧ 0 ≤ pl ∧ pl < W) ∧ I' (b + 145) 0 = (if l9 = T then sp_num W p pl else sp_atx W T Bk nb p l9 pl) ∧ sp_CL b I' W T n g c S w nb Bk H ∧ sp_FL2 b I I') ∨ (v = some (.int (dz_i 1)) ∧ ¬ (1 ≤ p ∧ p ≤ (sp_bs W T Bk nb).2.2 ∧ 0 ≤ l9 ∧ l9 ≤ T ∧ 0 ≤ pl ∧ pl < W) ∧ sp_CL b I' W T n g c S w nb Bk H ∧ sp_FL2 b I I'))) := by
  refine dz_enterW R_Law (by decide) rfl (Nat.le_of_ble_eq_true rfl) (ly_cat _ 0 rfl) (fun κ am dd rt rm tb => ?_)
  have hN := dz_dd_N dd
  refine dz_aload am 4 d_Law_at_0 rfl ?_
  refine dz_iconst am d_Law_at_2 ?_
  refine dz_aload_n am 0 d_Law_at_3 rfl rfl ?_
  refine dz_iload_n am 1 d_Law_at_4 rfl rfl ?_
  refine dz_iload_n am 2 d_Law_at_5 rfl rfl ?_
  refine dz_iload_n am 3 d_Law_at_6 rfl rfl ?_
  refine dz_callX (rest := [.int (dz_i 0), .ref (b + 145)]) am dd rm tb cl_Law_37 (c_DotBook_at l hst9 D Dt b sz I W T n g c S w nb Bk H CI p hp l9 hl9 pl hpl) (by decide) (by decide) (by decide) (ly_DotBook b) rfl rfl rfl rfl (Nat.le_of_ble_eq_true rfl) d_Law_at_7 (fun v sz' sk' rf' I' h => ?_) (fun E x sz' sk' rf' I' h => ?_)
  · obtain ⟨rfl, rfl, rfl, h⟩ := h
    obtain ⟨rfl, h1, hI⟩ := h
    subst hI
    have hC := CI
    have hF : sp_FL2 b I' I' := sp_FL2.rf
    refine dz_i2l am d_Law_at_10 ?_
    refine dz_last am (ly_Out b) (by decide) (by decide) d_Law_at_11 ?_
    refine dz_goto (tgt := 19) am d_Law_at_12 (by decide) ?_
    refine dz_iconst am d_Law_at_19 ?_
    exact dz_iret am rt rfl d_Law_at_20 ⟨Or.inl rfl, rfl, rfl, Or.inl ⟨rfl, h1, dz_up_s _ _ _ _, hC.out _, hF.put _⟩⟩
  · obtain ⟨rfl, rfl, rfl, h⟩ := h
    rcases h with ⟨rfl, hb, rfl⟩
    refine ⟨15, ⟨[], (0, 12, 15, 28), [], rfl, fun z hz => (by cases hz), by decide, by decide, by decide, ⟨_, lk_IOB, cs_IOB⟩, rfl⟩, ?_⟩
    refine dz_astore (ls' := [(0, .ref (b + 0)), (1, .int (dz_i p)), (2, .int (dz_i l9)), (3, .int (dz_i pl)), (4, .ref (b + 145)), (5, .ref x)]) am d_Law_at_15 hN (by decide) rfl ?_
    refine dz_iconst am d_Law_at_17 ?_
    exact dz_iret am rt rfl d_Law_at_18 ⟨Or.inr rfl, rfl, rfl, Or.inr (⟨rfl, hb, CI, sp_FL2.rf⟩)⟩
theorem cw_Law_102 : dz_Cw R_Law 102 y_Law_where b_Law_where 4 (some .int) [(0, 9, 12, 28)] 3 := ⟨dz_g4 57 rfl rfl, dz_g4 59 rfl rfl, dz_g1 0 rfl rfl, by decide, ⟨by decide, by decide, by decide +kernel⟩, dz_g4 58 rfl rfl⟩
set_option maxRecDepth 100000 in
set_option maxHeartbeats 4000000 in
theorem c_Law_where (l : Launch) (hst9 : l.stackTraces = false) (D : va_G) (Dt : Nat → ClassId) (b sz : Nat) (I : dz_Hp) (W T n : Int) (g : Int → Int) (c : Nat) (S : Nat → sp_Ru) (w : Int) (nb : Nat) (Bk : Nat → sp_Bk) (H : List Int) (CI : sp_CL b I W T n g c S w nb Bk H) (q : Int) (hq : -2147483648 ≤ q ∧ q < 2147483648) : dz_CW l D Dt y_Law_where b_Law_where 4 (some .int) [(0, 9, 12, 28)] 8 1 6 [.ref (b + 0), .int (dz_i q), .ref (b + 145)] sz (ly_s b) (ly_r b) I (fun v sz' sk' rf' I' => (sz' = sz ∨ sz' = sz + 1) ∧ sk' = ly_s b ∧ rf' = ly_r b ∧ ((v = some (.int (dz_i 0)) ∧ (0 ≤ q ∧ q < (nb : Int)) ∧ I' (b + 145) 0 = (if 0 < (sp_bl W (Bk q.toNat)).length then (sp_pp W T Bk q.toNat).1 * 32 + (sp_pp W T Bk q.toNat).2 else -1) ∧ sp_CL b I' W T n g c S w nb Bk H ∧ sp_FL2 b I I') ∨ (v = some (.int (dz_i 1)) ∧ ¬ (0 ≤ q ∧ q < (nb : Int)) ∧ sp_CL b I' W T n g c S w nb Bk H ∧ sp_FL2 b I I'))) := by
  refine dz_enterW R_Law (by decide) rfl (Nat.le_of_ble_eq_true rfl) (ly_cat _ 0 rfl) (fun κ am dd rt rm tb => ?_)
  have hN := dz_dd_N dd
  refine dz_aload_n am 2 d_Law_where_0 rfl rfl ?_
  refine dz_iconst am d_Law_where_1 ?_
  refine dz_aload_n am 0 d_Law_where_2 rfl rfl ?_
  refine dz_iload_n am 1 d_Law_where_3 rfl rfl ?_
  refine dz_callX (rest := [.int (dz_i 0), .ref (b + 145)]) am dd rm tb cl_Law_41 (c_DotBook_where l hst9 D Dt b sz I W T n g c S w nb Bk H CI q hq) (by decide) (by decide) (by decide) (ly_DotBook b) rfl rfl rfl rfl (Nat.le_of_ble_eq_true rfl) d_Law_where_4 (fun v sz' sk' rf' I' h => ?_) (fun E x sz' sk' rf' I' h => ?_)
  · obtain ⟨rfl, rfl, rfl, h⟩ := h
    obtain ⟨rfl, h1, hI⟩ := h
    subst hI
    have hC := CI
    have hF : sp_FL2 b I' I' := sp_FL2.rf
    refine dz_i2l am d_Law_where_7 ?_
    refine dz_last am (ly_Out b) (by decide) (by decide) d_Law_where_8 ?_
    refine dz_goto (tgt := 15) am d_Law_where_9 (by decide) ?_
    refine dz_iconst am d_Law_where_15 ?_
    exact dz_iret am rt rfl d_Law_where_16 ⟨Or.inl rfl, rfl, rfl, Or.inl ⟨rfl, h1, dz_up_s _ _ _ _, hC.out _, hF.put _⟩⟩
  · obtain ⟨rfl, rfl, rfl, h⟩ := h
    rcases h with ⟨rfl, hb, rfl⟩
    refine ⟨12, ⟨[], (0, 9, 12, 28), [], rfl, fun z hz => (by cases hz), by decide, by decide, by decide, ⟨_, lk_IOB, cs_IOB⟩, rfl⟩, ?_⟩
    refine dz_astore_n (ls' := [(0, .ref (b + 0)), (1, .int (dz_i q)), (2, .ref (b + 145)), (3, .ref x)]) am d_Law_where_12 rfl hN (by decide) rfl ?_
    refine dz_iconst am d_Law_where_13 ?_
    exact dz_iret am rt rfl d_Law_where_14 ⟨Or.inr rfl, rfl, rfl, Or.inr (⟨rfl, hb, CI, sp_FL2.rf⟩)⟩
