set_option maxRecDepth 100000 in
set_option maxHeartbeats 4000000 in
theorem c_Book_layOut (l : Launch) (D : va_G) (Dt : Nat → ClassId) (b sz : Nat) (I : dz_Hp) (i : Nat) (hi : i < 12) (k : Int) (hk : I (b + (82 + 4 * i)) 0 = k) (hk2 : 0 ≤ k ∧ k ≤ 3) (W T nb pg us la : Int) (KI : sp_K b I W T nb pg us la) (hW : 10 ≤ W ∧ W ≤ 40) (hT : 3 ≤ T ∧ T ≤ 19) (hpg : 1 ≤ pg ∧ pg ≤ 4000) (hus : 0 ≤ us ∧ us ≤ T) (m : Int) (h : Int → Int) (BI : sp_B b i I m h) (h0 : h (-1) = 0) (L : List (List Int)) (hL : L = sp_nl (sp_fd W k h m.toNat)) (hL2 : L.length ≤ 200) (X : Int × Int) (hX : X = sp_x0 T k (L.length : Int) (pg, us)) (Y : Int × Int × Int) (hY : Y = sp_pu T L.length (X.1, X.2, la)) : ly_M l D Dt b sz y_Book_layOut b_Book_layOut 3 none 5 [.ref (b + 80), .ref (b + (82 + 4 * i))] I (fun v I' => v = none ∧ sp_fr I I' (fun q => q = b + 80 ∨ q = b + (82 + 4 * i) ∨ q = b + (84 + 4 * i) ∨ q = b + (85 + 4 * i)) ∧ (∀ q : Int, q ≠ 4 → q ≠ 6 → q ≠ 7 → q ≠ 8 → I' (b + (82 + 4 * i)) q = I (b + (82 + 4 * i)) q) ∧ sp_L b i I' L ∧ sp_K b I' W T nb Y.1 Y.2.1 Y.2.2 ∧ (0 < L.length → I' (b + (82 + 4 * i)) 7 = (sp_tp T X).1 ∧ I' (b + (82 + 4 * i)) 8 = (sp_tp T X).2) ∧ (L.length = 0 → I' (b + (82 + 4 * i)) 7 = I (b + (82 + 4 * i)) 7 ∧ I' (b + (82 + 4 * i)) 8 = I (b + (82 + 4 * i)) 8)) := by
  refine ly_enter R_Book (by decide) rfl (Nat.le_of_ble_eq_true rfl) (ly_cat _ 0 rfl) (fun κ x => ?_)
  have hN := ly_N x
  have loop : ∀ (k9 : Nat) (n : Nat) (J : dz_Hp) (pg3 us3 la3 : Int), (n + k9 = L.length) → (sp_fr I J (fun q => q = b + 80 ∨ q = b + (82 + 4 * i) ∨ q = b + (84 + 4 * i) ∨ q = b + (85 + 4 * i))) → (∀ q : Int, q ≠ 4 → q ≠ 6 → q ≠ 7 → q ≠ 8 → J (b + (82 + 4 * i)) q = I (b + (82 + 4 * i)) q) → (sp_L b i J L) → (sp_K b J W T nb pg3 us3 la3) → ((1 ≤ pg3 ∧ pg3 ≤ 4002 + (n : Int)) ∧ (0 ≤ us3 ∧ us3 ≤ T)) → (sp_pu T k9 (pg3, us3, la3) = Y) → (n = 0 → (pg3, us3) = X ∧ J (b + (82 + 4 * i)) 7 = I (b + (82 + 4 * i)) 7 ∧ J (b + (82 + 4 * i)) 8 = I (b + (82 + 4 * i)) 8) → (0 < n → J (b + (82 + 4 * i)) 7 = (sp_tp T X).1 ∧ J (b + (82 + 4 * i)) 8 = (sp_tp T X).2) → ly_V κ b sz J 52 [(0, .ref (b + 80)), (1, .ref (b + (82 + 4 * i))), (2, .int (dz_i (n : Int)))] [] := by
    intro k9
    induction k9 with
    | zero =>
      intro n J pg3 us3 la3 hn FJ AJ LJ KJ hr3 hYY h0n h1n
      refine dz_iload_n x.1 2 d_Book_layOut_52 rfl rfl ?_
      refine dz_aload_n x.1 1 d_Book_layOut_53 rfl rfl ?_
      refine dz_geti (z := (L.length : Int)) x.1 (ly_Block b hi) fl_Book_50 d_Book_layOut_54 LJ.1 ?_
      refine dz_icmp_ge (tgt := 119) x.1 d_Book_layOut_57 (by decide) (by omega) (by omega) (fun hc57 => ?_) (fun hc57 => by exfalso; omega)
      exact ly_vret x d_Book_layOut_119 ⟨rfl, FJ, AJ, LJ, by rw [← hYY]; exact KJ, fun h9 => h1n (by omega), fun h9 => (h0n (by omega)).2⟩
    | succ k9 ih =>
      intro n J pg3 us3 la3 hn FJ AJ LJ KJ hr3 hYY h0n h1n
      refine dz_iload_n x.1 2 d_Book_layOut_52 rfl rfl ?_
      refine dz_aload_n x.1 1 d_Book_layOut_53 rfl rfl ?_
      refine dz_geti (z := (L.length : Int)) x.1 (ly_Block b hi) fl_Book_50 d_Book_layOut_54 LJ.1 ?_
      refine dz_icmp_ge (tgt := 119) x.1 d_Book_layOut_57 (by decide) (by omega) (by omega) (fun hc57 => by exfalso; omega) (fun hc57 => ?_)
      refine dz_aload_n x.1 0 d_Book_layOut_60 rfl rfl ?_
      refine dz_geti (z := us3) x.1 (ly_Book b) fl_Book_37 d_Book_layOut_61 KJ.2.2.2.2.2.1 ?_
      refine dz_aload_n x.1 0 d_Book_layOut_64 rfl rfl ?_
      refine dz_geti (z := T) x.1 (ly_Book b) fl_Book_30 d_Book_layOut_65 KJ.2.2.1 ?_
      refine dz_icmp_lt (tgt := 75) x.1 d_Book_layOut_68 (by decide) (by omega) (by omega) (fun hc68 => ?_) (fun hc68 => ?_)
      · have etp : sp_tp T (pg3, us3) = (pg3, us3) := if_neg (by show ¬ T ≤ us3; omega)
        refine dz_iload_n x.1 2 d_Book_layOut_75 rfl rfl ?_
        refine dz_if_ne (tgt := 95) x.1 d_Book_layOut_76 (by decide) (by omega) (fun hc76 => ?_) (fun hc76 => ?_)
        · refine dz_aload_n x.1 0 d_Book_layOut_95 rfl rfl ?_
          refine dz_dup x.1 d_Book_layOut_96 rfl ?_
          refine dz_geti (z := us3) x.1 (ly_Book b) fl_Book_37 d_Book_layOut_97 KJ.2.2.2.2.2.1 ?_
          refine dz_iconst x.1 d_Book_layOut_100 ?_
          refine dz_iadd (z := us3 + 1) x.1 d_Book_layOut_101 (by omega) ?_
          refine dz_puti x.1 (ly_Book b) fl_Book_37 fp_Book_6 d_Book_layOut_102 ?_
          refine dz_aload_n x.1 0 d_Book_layOut_105 rfl rfl ?_
          refine dz_aload_n x.1 0 d_Book_layOut_106 rfl rfl ?_
          refine dz_geti (z := pg3) x.1 (ly_Book b) fl_Book_17 d_Book_layOut_107 (by rw [dz_up_k _ _ _ (by omega)]; exact KJ.2.2.2.2.1) ?_
          refine dz_puti x.1 (ly_Book b) fl_Book_21 fp_Book_7 d_Book_layOut_110 ?_
          refine dz_iinc (z := (n : Int) + 1) (ls' := [(0, .ref (b + 80)), (1, .ref (b + (82 + 4 * i))), (2, .int (dz_i ((n : Int) + 1)))]) x.1 2 d_Book_layOut_113 rfl hN (by decide) (by omega) rfl ?_
          refine dz_goto (tgt := 52) x.1 d_Book_layOut_116 (by decide) ?_
          have h9 := ih (n + 1) (dz_up (dz_up J (b + 80) 6 (us3 + 1)) (b + 80) 7 pg3) pg3 (us3 + 1) pg3 (by omega) ((FJ.up (Or.inl rfl)).up (Or.inl rfl)) (fun q h1 h2 h3 h4 => by (repeat (first | rw [dz_up_n _ _ _ (by omega)] | rw [dz_up_k _ _ _ h3] | rw [dz_up_k _ _ _ h4])) <;> exact AJ q h1 h2 h3 h4) (LJ.fr (by (repeat (first | rw [dz_up_s] | rw [dz_up_k _ _ _ (by decide)] | rw [dz_up_n _ _ _ (by omega)]))) (by (repeat (first | rw [dz_up_s] | rw [dz_up_k _ _ _ (by decide)] | rw [dz_up_n _ _ _ (by omega)]))) (by (repeat (first | rw [dz_up_s] | rw [dz_up_k _ _ _ (by decide)] | rw [dz_up_n _ _ _ (by omega)]))) (by (repeat (first | rw [dz_up_s] | rw [dz_up_k _ _ _ (by decide)] | rw [dz_up_n _ _ _ (by omega)])))) ⟨by (repeat (first | rw [dz_up_s] | rw [dz_up_k _ _ _ (by decide)] | rw [dz_up_n _ _ _ (by omega)])) <;> (first | exact KJ.1 | rfl), by (repeat (first | rw [dz_up_s] | rw [dz_up_k _ _ _ (by decide)] | rw [dz_up_n _ _ _ (by omega)])) <;> (first | exact KJ.2.1 | rfl), by (repeat (first | rw [dz_up_s] | rw [dz_up_k _ _ _ (by decide)] | rw [dz_up_n _ _ _ (by omega)])) <;> (first | exact KJ.2.2.1 | rfl), by (repeat (first | rw [dz_up_s] | rw [dz_up_k _ _ _ (by decide)] | rw [dz_up_n _ _ _ (by omega)])) <;> (first | exact KJ.2.2.2.1 | rfl), by (repeat (first | rw [dz_up_s] | rw [dz_up_k _ _ _ (by decide)] | rw [dz_up_n _ _ _ (by omega)])) <;> (first | exact KJ.2.2.2.2.1 | rfl), by (repeat (first | rw [dz_up_s] | rw [dz_up_k _ _ _ (by decide)] | rw [dz_up_n _ _ _ (by omega)])) <;> (first | exact KJ.2.2.2.2.2.1 | rfl), by (repeat (first | rw [dz_up_s] | rw [dz_up_k _ _ _ (by decide)] | rw [dz_up_n _ _ _ (by omega)])) <;> (first | exact KJ.2.2.2.2.2.2 | rfl)⟩ (by omega) (by rw [← hYY]; simp only [sp_pu]; rw [etp]) (fun h8 => by omega) (fun _ => ⟨by (repeat (first | rw [dz_up_s] | rw [dz_up_k _ _ _ (by decide)] | rw [dz_up_n _ _ _ (by omega)])) <;> (exact (h1n (by omega)).1), by (repeat (first | rw [dz_up_s] | rw [dz_up_k _ _ _ (by decide)] | rw [dz_up_n _ _ _ (by omega)])) <;> (exact (h1n (by omega)).2)⟩)
          rw [show ((n + 1 : Nat) : Int) = (n : Int) + 1 by omega] at h9
          exact h9
        · refine dz_aload_n x.1 1 d_Book_layOut_79 rfl rfl ?_
          refine dz_aload_n x.1 0 d_Book_layOut_80 rfl rfl ?_
          refine dz_geti (z := pg3) x.1 (ly_Book b) fl_Book_17 d_Book_layOut_81 KJ.2.2.2.2.1 ?_
          refine dz_puti x.1 (ly_Block b hi) fl_Book_56 fp_Block_7 d_Book_layOut_84 ?_
          refine dz_aload_n x.1 1 d_Book_layOut_87 rfl rfl ?_
          refine dz_aload_n x.1 0 d_Book_layOut_88 rfl rfl ?_
          refine dz_geti (z := us3) x.1 (ly_Book b) fl_Book_37 d_Book_layOut_89 (by rw [dz_up_n _ _ _ (by omega)]; exact KJ.2.2.2.2.2.1) ?_
          refine dz_puti x.1 (ly_Block b hi) fl_Book_57 fp_Block_8 d_Book_layOut_92 ?_
          refine dz_aload_n x.1 0 d_Book_layOut_95 rfl rfl ?_
          refine dz_dup x.1 d_Book_layOut_96 rfl ?_
          refine dz_geti (z := us3) x.1 (ly_Book b) fl_Book_37 d_Book_layOut_97 (by rw [dz_up_n _ _ _ (by omega)]; rw [dz_up_n _ _ _ (by omega)]; exact KJ.2.2.2.2.2.1) ?_
          refine dz_iconst x.1 d_Book_layOut_100 ?_
          refine dz_iadd (z := us3 + 1) x.1 d_Book_layOut_101 (by omega) ?_
          refine dz_puti x.1 (ly_Book b) fl_Book_37 fp_Book_6 d_Book_layOut_102 ?_
          refine dz_aload_n x.1 0 d_Book_layOut_105 rfl rfl ?_
          refine dz_aload_n x.1 0 d_Book_layOut_106 rfl rfl ?_
          refine dz_geti (z := pg3) x.1 (ly_Book b) fl_Book_17 d_Book_layOut_107 (by rw [dz_up_k _ _ _ (by omega)]; rw [dz_up_n _ _ _ (by omega)]; rw [dz_up_n _ _ _ (by omega)]; exact KJ.2.2.2.2.1) ?_
          refine dz_puti x.1 (ly_Book b) fl_Book_21 fp_Book_7 d_Book_layOut_110 ?_
          refine dz_iinc (z := (n : Int) + 1) (ls' := [(0, .ref (b + 80)), (1, .ref (b + (82 + 4 * i))), (2, .int (dz_i ((n : Int) + 1)))]) x.1 2 d_Book_layOut_113 rfl hN (by decide) (by omega) rfl ?_
          refine dz_goto (tgt := 52) x.1 d_Book_layOut_116 (by decide) ?_
          have h9 := ih (n + 1) (dz_up (dz_up (dz_up (dz_up J (b + (82 + 4 * i)) 7 pg3) (b + (82 + 4 * i)) 8 us3) (b + 80) 6 (us3 + 1)) (b + 80) 7 pg3) pg3 (us3 + 1) pg3 (by omega) ((((FJ.up (Or.inr (Or.inl rfl))).up (Or.inr (Or.inl rfl))).up (Or.inl rfl)).up (Or.inl rfl)) (fun q h1 h2 h3 h4 => by (repeat (first | rw [dz_up_n _ _ _ (by omega)] | rw [dz_up_k _ _ _ h3] | rw [dz_up_k _ _ _ h4])) <;> exact AJ q h1 h2 h3 h4) (LJ.fr (by (repeat (first | rw [dz_up_s] | rw [dz_up_k _ _ _ (by decide)] | rw [dz_up_n _ _ _ (by omega)]))) (by (repeat (first | rw [dz_up_s] | rw [dz_up_k _ _ _ (by decide)] | rw [dz_up_n _ _ _ (by omega)]))) (by (repeat (first | rw [dz_up_s] | rw [dz_up_k _ _ _ (by decide)] | rw [dz_up_n _ _ _ (by omega)]))) (by (repeat (first | rw [dz_up_s] | rw [dz_up_k _ _ _ (by decide)] | rw [dz_up_n _ _ _ (by omega)])))) ⟨by (repeat (first | rw [dz_up_s] | rw [dz_up_k _ _ _ (by decide)] | rw [dz_up_n _ _ _ (by omega)])) <;> (first | exact KJ.1 | rfl), by (repeat (first | rw [dz_up_s] | rw [dz_up_k _ _ _ (by decide)] | rw [dz_up_n _ _ _ (by omega)])) <;> (first | exact KJ.2.1 | rfl), by (repeat (first | rw [dz_up_s] | rw [dz_up_k _ _ _ (by decide)] | rw [dz_up_n _ _ _ (by omega)])) <;> (first | exact KJ.2.2.1 | rfl), by (repeat (first | rw [dz_up_s] | rw [dz_up_k _ _ _ (by decide)] | rw [dz_up_n _ _ _ (by omega)])) <;> (first | exact KJ.2.2.2.1 | rfl), by (repeat (first | rw [dz_up_s] | rw [dz_up_k _ _ _ (by decide)] | rw [dz_up_n _ _ _ (by omega)])) <;> (first | exact KJ.2.2.2.2.1 | rfl), by (repeat (first | rw [dz_up_s] | rw [dz_up_k _ _ _ (by decide)] | rw [dz_up_n _ _ _ (by omega)])) <;> (first | exact KJ.2.2.2.2.2.1 | rfl), by (repeat (first | rw [dz_up_s] | rw [dz_up_k _ _ _ (by decide)] | rw [dz_up_n _ _ _ (by omega)])) <;> (first | exact KJ.2.2.2.2.2.2 | rfl)⟩ (by omega) (by rw [← hYY]; simp only [sp_pu]; rw [etp]) (fun h8 => by omega) (fun _ => ⟨by (repeat (first | rw [dz_up_s] | rw [dz_up_k _ _ _ (by decide)] | rw [dz_up_n _ _ _ (by omega)])) <;> (rw [← (h0n (by omega)).1, etp]), by (repeat (first | rw [dz_up_s] | rw [dz_up_k _ _ _ (by decide)] | rw [dz_up_n _ _ _ (by omega)])) <;> (rw [← (h0n (by omega)).1, etp])⟩)
          rw [show ((n + 1 : Nat) : Int) = (n : Int) + 1 by omega] at h9
          exact h9
      · refine dz_aload_n x.1 0 d_Book_layOut_71 rfl rfl ?_
        refine ly_callV (rest := []) x cl_Book_47 (c_Book_turnPage l D Dt b sz J W T nb pg3 us3 la3 KJ) (by decide) (ly_Book b) rfl rfl rfl rfl (Nat.le_of_ble_eq_true rfl) d_Book_layOut_72 (fun v J72 hp72 => ?_)
        obtain ⟨rfl, hFJ72, KJ72⟩ := hp72
        have FJ72 : sp_fr I J72 (fun q => q = b + 80 ∨ q = b + (82 + 4 * i) ∨ q = b + (84 + 4 * i) ∨ q = b + (85 + 4 * i)) := FJ.tr hFJ72 (fun q h => Or.inl h)
        have AJ72 : ∀ q : Int, q ≠ 4 → q ≠ 6 → q ≠ 7 → q ≠ 8 → J72 (b + (82 + 4 * i)) q = I (b + (82 + 4 * i)) q := fun q h1 h2 h3 h4 => by rw [hFJ72 _ (fun h => by have h : _ = _ := h; omega)]; exact AJ q h1 h2 h3 h4
        have LJ72 : sp_L b i J72 L := LJ.fr (by rw [hFJ72 _ (fun h => by have h : _ = _ := h; omega)]) (by rw [hFJ72 _ (fun h => by have h : _ = _ := h; omega)]) (hFJ72 _ (fun h => by have h : _ = _ := h; omega)) (hFJ72 _ (fun h => by have h : _ = _ := h; omega))
        have h7J72 : J72 (b + (82 + 4 * i)) = J (b + (82 + 4 * i)) := hFJ72 _ (fun h => by have h : _ = _ := h; omega)
        show ly_V κ b sz J72 75 [(0, .ref (b + 80)), (1, .ref (b + (82 + 4 * i))), (2, .int (dz_i (n : Int)))] []
        have etp : sp_tp T (pg3, us3) = (pg3 + 1, 0) := if_pos (by show T ≤ us3; omega)
        refine dz_iload_n x.1 2 d_Book_layOut_75 rfl rfl ?_
        refine dz_if_ne (tgt := 95) x.1 d_Book_layOut_76 (by decide) (by omega) (fun hc76 => ?_) (fun hc76 => ?_)
        · refine dz_aload_n x.1 0 d_Book_layOut_95 rfl rfl ?_
          refine dz_dup x.1 d_Book_layOut_96 rfl ?_
          refine dz_geti (z := 0) x.1 (ly_Book b) fl_Book_37 d_Book_layOut_97 KJ72.2.2.2.2.2.1 ?_
          refine dz_iconst x.1 d_Book_layOut_100 ?_
          refine dz_iadd (z := 1) x.1 d_Book_layOut_101 (by omega) ?_
          refine dz_puti x.1 (ly_Book b) fl_Book_37 fp_Book_6 d_Book_layOut_102 ?_
          refine dz_aload_n x.1 0 d_Book_layOut_105 rfl rfl ?_
          refine dz_aload_n x.1 0 d_Book_layOut_106 rfl rfl ?_
          refine dz_geti (z := pg3 + 1) x.1 (ly_Book b) fl_Book_17 d_Book_layOut_107 (by rw [dz_up_k _ _ _ (by omega)]; exact KJ72.2.2.2.2.1) ?_
          refine dz_puti x.1 (ly_Book b) fl_Book_21 fp_Book_7 d_Book_layOut_110 ?_
          refine dz_iinc (z := (n : Int) + 1) (ls' := [(0, .ref (b + 80)), (1, .ref (b + (82 + 4 * i))), (2, .int (dz_i ((n : Int) + 1)))]) x.1 2 d_Book_layOut_113 rfl hN (by decide) (by omega) rfl ?_
          refine dz_goto (tgt := 52) x.1 d_Book_layOut_116 (by decide) ?_
          have h9 := ih (n + 1) (dz_up (dz_up J72 (b + 80) 6 1) (b + 80) 7 (pg3 + 1)) (pg3 + 1) (0 + 1) (pg3 + 1) (by omega) ((FJ72.up (Or.inl rfl)).up (Or.inl rfl)) (fun q h1 h2 h3 h4 => by (repeat (first | rw [dz_up_n _ _ _ (by omega)] | rw [dz_up_k _ _ _ h3] | rw [dz_up_k _ _ _ h4])) <;> exact AJ72 q h1 h2 h3 h4) (LJ72.fr (by (repeat (first | rw [dz_up_s] | rw [dz_up_k _ _ _ (by decide)] | rw [dz_up_n _ _ _ (by omega)]))) (by (repeat (first | rw [dz_up_s] | rw [dz_up_k _ _ _ (by decide)] | rw [dz_up_n _ _ _ (by omega)]))) (by (repeat (first | rw [dz_up_s] | rw [dz_up_k _ _ _ (by decide)] | rw [dz_up_n _ _ _ (by omega)]))) (by (repeat (first | rw [dz_up_s] | rw [dz_up_k _ _ _ (by decide)] | rw [dz_up_n _ _ _ (by omega)])))) ⟨by (repeat (first | rw [dz_up_s] | rw [dz_up_k _ _ _ (by decide)] | rw [dz_up_n _ _ _ (by omega)])) <;> (first | exact KJ72.1 | rfl), by (repeat (first | rw [dz_up_s] | rw [dz_up_k _ _ _ (by decide)] | rw [dz_up_n _ _ _ (by omega)])) <;> (first | exact KJ72.2.1 | rfl), by (repeat (first | rw [dz_up_s] | rw [dz_up_k _ _ _ (by decide)] | rw [dz_up_n _ _ _ (by omega)])) <;> (first | exact KJ72.2.2.1 | rfl), by (repeat (first | rw [dz_up_s] | rw [dz_up_k _ _ _ (by decide)] | rw [dz_up_n _ _ _ (by omega)])) <;> (first | exact KJ72.2.2.2.1 | rfl), by (repeat (first | rw [dz_up_s] | rw [dz_up_k _ _ _ (by decide)] | rw [dz_up_n _ _ _ (by omega)])) <;> (first | exact KJ72.2.2.2.2.1 | rfl), by (repeat (first | rw [dz_up_s] | rw [dz_up_k _ _ _ (by decide)] | rw [dz_up_n _ _ _ (by omega)])) <;> (first | exact KJ72.2.2.2.2.2.1 | rfl), by (repeat (first | rw [dz_up_s] | rw [dz_up_k _ _ _ (by decide)] | rw [dz_up_n _ _ _ (by omega)])) <;> (first | exact KJ72.2.2.2.2.2.2 | rfl)⟩ (by omega) (by rw [← hYY]; simp only [sp_pu]; rw [etp]) (fun h8 => by omega) (fun _ => ⟨by (repeat (first | rw [dz_up_s] | rw [dz_up_k _ _ _ (by decide)] | rw [dz_up_n _ _ _ (by omega)])) <;> (rw [h7J72]; exact (h1n (by omega)).1), by (repeat (first | rw [dz_up_s] | rw [dz_up_k _ _ _ (by decide)] | rw [dz_up_n _ _ _ (by omega)])) <;> (rw [h7J72]; exact (h1n (by omega)).2)⟩)
          rw [show ((n + 1 : Nat) : Int) = (n : Int) + 1 by omega] at h9
          exact h9
        · refine dz_aload_n x.1 1 d_Book_layOut_79 rfl rfl ?_
          refine dz_aload_n x.1 0 d_Book_layOut_80 rfl rfl ?_
          refine dz_geti (z := pg3 + 1) x.1 (ly_Book b) fl_Book_17 d_Book_layOut_81 KJ72.2.2.2.2.1 ?_
          refine dz_puti x.1 (ly_Block b hi) fl_Book_56 fp_Block_7 d_Book_layOut_84 ?_
          refine dz_aload_n x.1 1 d_Book_layOut_87 rfl rfl ?_
          refine dz_aload_n x.1 0 d_Book_layOut_88 rfl rfl ?_
          refine dz_geti (z := 0) x.1 (ly_Book b) fl_Book_37 d_Book_layOut_89 (by rw [dz_up_n _ _ _ (by omega)]; exact KJ72.2.2.2.2.2.1) ?_
          refine dz_puti x.1 (ly_Block b hi) fl_Book_57 fp_Block_8 d_Book_layOut_92 ?_
          refine dz_aload_n x.1 0 d_Book_layOut_95 rfl rfl ?_
          refine dz_dup x.1 d_Book_layOut_96 rfl ?_
          refine dz_geti (z := 0) x.1 (ly_Book b) fl_Book_37 d_Book_layOut_97 (by rw [dz_up_n _ _ _ (by omega)]; rw [dz_up_n _ _ _ (by omega)]; exact KJ72.2.2.2.2.2.1) ?_
          refine dz_iconst x.1 d_Book_layOut_100 ?_
          refine dz_iadd (z := 1) x.1 d_Book_layOut_101 (by omega) ?_
          refine dz_puti x.1 (ly_Book b) fl_Book_37 fp_Book_6 d_Book_layOut_102 ?_
          refine dz_aload_n x.1 0 d_Book_layOut_105 rfl rfl ?_
          refine dz_aload_n x.1 0 d_Book_layOut_106 rfl rfl ?_
          refine dz_geti (z := pg3 + 1) x.1 (ly_Book b) fl_Book_17 d_Book_layOut_107 (by rw [dz_up_k _ _ _ (by omega)]; rw [dz_up_n _ _ _ (by omega)]; rw [dz_up_n _ _ _ (by omega)]; exact KJ72.2.2.2.2.1) ?_
          refine dz_puti x.1 (ly_Book b) fl_Book_21 fp_Book_7 d_Book_layOut_110 ?_
          refine dz_iinc (z := (n : Int) + 1) (ls' := [(0, .ref (b + 80)), (1, .ref (b + (82 + 4 * i))), (2, .int (dz_i ((n : Int) + 1)))]) x.1 2 d_Book_layOut_113 rfl hN (by decide) (by omega) rfl ?_
          refine dz_goto (tgt := 52) x.1 d_Book_layOut_116 (by decide) ?_
          have h9 := ih (n + 1) (dz_up (dz_up (dz_up (dz_up J72 (b + (82 + 4 * i)) 7 (pg3 + 1)) (b + (82 + 4 * i)) 8 0) (b + 80) 6 1) (b + 80) 7 (pg3 + 1)) (pg3 + 1) (0 + 1) (pg3 + 1) (by omega) ((((FJ72.up (Or.inr (Or.inl rfl))).up (Or.inr (Or.inl rfl))).up (Or.inl rfl)).up (Or.inl rfl)) (fun q h1 h2 h3 h4 => by (repeat (first | rw [dz_up_n _ _ _ (by omega)] | rw [dz_up_k _ _ _ h3] | rw [dz_up_k _ _ _ h4])) <;> exact AJ72 q h1 h2 h3 h4) (LJ72.fr (by (repeat (first | rw [dz_up_s] | rw [dz_up_k _ _ _ (by decide)] | rw [dz_up_n _ _ _ (by omega)]))) (by (repeat (first | rw [dz_up_s] | rw [dz_up_k _ _ _ (by decide)] | rw [dz_up_n _ _ _ (by omega)]))) (by (repeat (first | rw [dz_up_s] | rw [dz_up_k _ _ _ (by decide)] | rw [dz_up_n _ _ _ (by omega)]))) (by (repeat (first | rw [dz_up_s] | rw [dz_up_k _ _ _ (by decide)] | rw [dz_up_n _ _ _ (by omega)])))) ⟨by (repeat (first | rw [dz_up_s] | rw [dz_up_k _ _ _ (by decide)] | rw [dz_up_n _ _ _ (by omega)])) <;> (first | exact KJ72.1 | rfl), by (repeat (first | rw [dz_up_s] | rw [dz_up_k _ _ _ (by decide)] | rw [dz_up_n _ _ _ (by omega)])) <;> (first | exact KJ72.2.1 | rfl), by (repeat (first | rw [dz_up_s] | rw [dz_up_k _ _ _ (by decide)] | rw [dz_up_n _ _ _ (by omega)])) <;> (first | exact KJ72.2.2.1 | rfl), by (repeat (first | rw [dz_up_s] | rw [dz_up_k _ _ _ (by decide)] | rw [dz_up_n _ _ _ (by omega)])) <;> (first | exact KJ72.2.2.2.1 | rfl), by (repeat (first | rw [dz_up_s] | rw [dz_up_k _ _ _ (by decide)] | rw [dz_up_n _ _ _ (by omega)])) <;> (first | exact KJ72.2.2.2.2.1 | rfl), by (repeat (first | rw [dz_up_s] | rw [dz_up_k _ _ _ (by decide)] | rw [dz_up_n _ _ _ (by omega)])) <;> (first | exact KJ72.2.2.2.2.2.1 | rfl), by (repeat (first | rw [dz_up_s] | rw [dz_up_k _ _ _ (by decide)] | rw [dz_up_n _ _ _ (by omega)])) <;> (first | exact KJ72.2.2.2.2.2.2 | rfl)⟩ (by omega) (by rw [← hYY]; simp only [sp_pu]; rw [etp]) (fun h8 => by omega) (fun _ => ⟨by (repeat (first | rw [dz_up_s] | rw [dz_up_k _ _ _ (by decide)] | rw [dz_up_n _ _ _ (by omega)])) <;> (rw [← (h0n (by omega)).1, etp]), by (repeat (first | rw [dz_up_s] | rw [dz_up_k _ _ _ (by decide)] | rw [dz_up_n _ _ _ (by omega)])) <;> (rw [← (h0n (by omega)).1, etp])⟩)
          rw [show ((n + 1 : Nat) : Int) = (n : Int) + 1 by omega] at h9
          exact h9
  have hXr := sp_x0_rng (T := T) (k := k) (lc := (L.length : Int)) (pg := pg) (us := us) hT.1 hus
  rw [← hX] at hXr
  have k50 : ∀ (J : dz_Hp) (pg2 us2 : Int), (sp_fr I J (fun q => q = b + 80 ∨ q = b + (82 + 4 * i) ∨ q = b + (84 + 4 * i) ∨ q = b + (85 + 4 * i))) → (∀ q : Int, q ≠ 4 → q ≠ 6 → J (b + (82 + 4 * i)) q = I (b + (82 + 4 * i)) q) → (sp_L b i J L) → (sp_K b J W T nb pg2 us2 la) → ((pg2, us2) = X) → ly_V κ b sz J 50 [(0, .ref (b + 80)), (1, .ref (b + (82 + 4 * i)))] [] := by
    intro J pg2 us2 FJ AJ LJ KJ hx2
    refine dz_iconst x.1 d_Book_layOut_50 ?_
    refine dz_istore_n (ls' := [(0, .ref (b + 80)), (1, .ref (b + (82 + 4 * i))), (2, .int (dz_i 0))]) x.1 d_Book_layOut_51 rfl hN (by decide) rfl ?_
    have e1 : pg2 = X.1 := by rw [← hx2]
    have e2 : us2 = X.2 := by rw [← hx2]
    exact loop L.length 0 J pg2 us2 la (by omega) FJ (fun q h1 h2 _ _ => AJ q h1 h2) LJ KJ (by omega) (by rw [hY, e1, e2]) (fun _ => ⟨hx2, AJ 7 (by decide) (by decide), AJ 8 (by decide) (by decide)⟩) (fun h9 => by omega)
  have k27 : ∀ (J : dz_Hp) (pg1 us1 : Int), (sp_fr I J (fun q => q = b + 80 ∨ q = b + (82 + 4 * i) ∨ q = b + (84 + 4 * i) ∨ q = b + (85 + 4 * i))) → (∀ q : Int, q ≠ 4 → q ≠ 6 → J (b + (82 + 4 * i)) q = I (b + (82 + 4 * i)) q) → (sp_L b i J L) → (sp_K b J W T nb pg1 us1 la) → ((pg1, us1) = sp_br k (pg, us)) → ((1 ≤ pg1 ∧ pg1 ≤ 4001) ∧ 0 ≤ us1 ∧ us1 ≤ T) → ly_V κ b sz J 27 [(0, .ref (b + 80)), (1, .ref (b + (82 + 4 * i)))] [] := by
    intro J pg1 us1 FJ AJ LJ KJ hx1 hr1
    refine dz_aload_n x.1 1 d_Book_layOut_27 rfl rfl ?_
    refine dz_geti (z := k) x.1 (ly_Block b hi) fl_Book_44 d_Book_layOut_28 (by rw [AJ 0 (by decide) (by decide)]; exact hk) ?_
    refine dz_iconst x.1 d_Book_layOut_31 ?_
    refine dz_icmp_ne (tgt := 50) x.1 d_Book_layOut_32 (by decide) (by omega) (by omega) (fun hc32 => ?_) (fun hc32 => ?_)
    · exact k50 J pg1 us1 FJ AJ LJ KJ (by rw [hX]; unfold sp_x0 sp_bh; rw [if_neg (by intro h; first | exact hc32 h.1 | omega), ← hx1])
    · refine dz_aload_n x.1 1 d_Book_layOut_35 rfl rfl ?_
      refine dz_geti (z := (L.length : Int)) x.1 (ly_Block b hi) fl_Book_50 d_Book_layOut_36 LJ.1 ?_
      refine dz_if_le (tgt := 50) x.1 d_Book_layOut_39 (by decide) (by omega) (fun hc39 => ?_) (fun hc39 => ?_)
      · exact k50 J pg1 us1 FJ AJ LJ KJ (by rw [hX]; unfold sp_x0 sp_bh; rw [if_neg (by intro h; first | exact hc32 h.1 | omega), ← hx1])
      · refine dz_aload_n x.1 0 d_Book_layOut_42 rfl rfl ?_
        refine dz_aload_n x.1 1 d_Book_layOut_43 rfl rfl ?_
        refine dz_geti (z := (L.length : Int)) x.1 (ly_Block b hi) fl_Book_50 d_Book_layOut_44 LJ.1 ?_
        refine ly_callV (rest := []) x cl_Book_53 (c_Book_makeWayForHeading l D Dt b sz J W T nb pg1 us1 la KJ hT (by omega) (by omega) (L.length : Int) (by omega)) (by decide) (ly_Book b) rfl rfl rfl rfl (Nat.le_of_ble_eq_true rfl) d_Book_layOut_47 (fun v J47 hp47 => ?_)
        obtain ⟨rfl, hF47, KJ47⟩ := hp47
        show ly_V κ b sz J47 50 [(0, .ref (b + 80)), (1, .ref (b + (82 + 4 * i)))] []
        exact k50 J47 _ _ (FJ.tr hF47 (fun q h => Or.inl h)) (fun q h1 h2 => by rw [hF47 _ (fun h => by have h : _ = _ := h; omega)]; exact AJ q h1 h2) (LJ.fr (by rw [hF47 _ (fun h => by have h : _ = _ := h; omega)]) (by rw [hF47 _ (fun h => by have h : _ = _ := h; omega)]) (hF47 _ (fun h => by have h : _ = _ := h; omega)) (hF47 _ (fun h => by have h : _ = _ := h; omega))) KJ47 (by rw [hX]; unfold sp_x0 sp_bh; rw [if_pos ⟨hc32, by omega⟩, ← hx1])
  show ly_V κ b sz I 0 [(0, .ref (b + 80)), (1, .ref (b + (82 + 4 * i)))] []
  refine dz_aload_n x.1 1 d_Book_layOut_0 rfl rfl ?_
  refine dz_aload_n x.1 0 d_Book_layOut_1 rfl rfl ?_
  refine dz_geti (z := W) x.1 (ly_Book b) fl_Book_24 d_Book_layOut_2 KI.1 ?_
  refine ly_callV (rest := []) x cl_Book_40 (c_Block_cutIntoLines l D Dt b sz I i hi k hk hk2 W hW m h BI h0) (by decide) (ly_Block b hi) rfl rfl rfl rfl (Nat.le_of_ble_eq_true rfl) d_Book_layOut_5 (fun v J5 hp5 => ?_)
  obtain ⟨rfl, hF5, AJ5, LJ5⟩ := hp5
  rw [← hL] at LJ5
  have FJ5 : sp_fr I J5 (fun q => q = b + 80 ∨ q = b + (82 + 4 * i) ∨ q = b + (84 + 4 * i) ∨ q = b + (85 + 4 * i)) := hF5.mono (fun q h => Or.inr h)
  have KJ5 : sp_K b J5 W T nb pg us la := KI.fr (hF5 _ (fun h => by rcases h with h | h | h <;> omega))
  show ly_V κ b sz J5 8 [(0, .ref (b + 80)), (1, .ref (b + (82 + 4 * i)))] []
  refine dz_aload_n x.1 1 d_Book_layOut_8 rfl rfl ?_
  refine dz_geti (z := k) x.1 (ly_Block b hi) fl_Book_44 d_Book_layOut_9 (by rw [AJ5 0 (by decide) (by decide)]; exact hk) ?_
  refine dz_iconst x.1 d_Book_layOut_12 ?_
  refine dz_icmp_ne (tgt := 27) x.1 d_Book_layOut_13 (by decide) (by omega) (by omega) (fun hc13 => ?_) (fun hc13 => ?_)
  · exact k27 J5 pg us FJ5 AJ5 LJ5 KJ5 (by unfold sp_br; rw [if_neg (by intro h; first | exact hc13 h.1 | (have h9 : 0 < us := h.2; omega))]) (by omega)
  · refine dz_aload_n x.1 0 d_Book_layOut_16 rfl rfl ?_
    refine dz_geti (z := us) x.1 (ly_Book b) fl_Book_37 d_Book_layOut_17 KJ5.2.2.2.2.2.1 ?_
    refine dz_if_le (tgt := 27) x.1 d_Book_layOut_20 (by decide) (by omega) (fun hc20 => ?_) (fun hc20 => ?_)
    · exact k27 J5 pg us FJ5 AJ5 LJ5 KJ5 (by unfold sp_br; rw [if_neg (by intro h; first | exact hc13 h.1 | (have h9 : 0 < us := h.2; omega))]) (by omega)
    · refine dz_aload_n x.1 0 d_Book_layOut_23 rfl rfl ?_
      refine ly_callV (rest := []) x cl_Book_47 (c_Book_turnPage l D Dt b sz J5 W T nb pg us la KJ5) (by decide) (ly_Book b) rfl rfl rfl rfl (Nat.le_of_ble_eq_true rfl) d_Book_layOut_24 (fun v J24 hp24 => ?_)
      obtain ⟨rfl, hFJ24, KJ24⟩ := hp24
      show ly_V κ b sz J24 27 [(0, .ref (b + 80)), (1, .ref (b + (82 + 4 * i)))] []
      exact k27 J24 (pg + 1) 0 (FJ5.tr hFJ24 (fun q h => Or.inl h)) (fun q h1 h2 => by rw [hFJ24 _ (fun h => by have h : _ = _ := h; omega)]; exact AJ5 q h1 h2) (LJ5.fr (by rw [hFJ24 _ (fun h => by have h : _ = _ := h; omega)]) (by rw [hFJ24 _ (fun h => by have h : _ = _ := h; omega)]) (hFJ24 _ (fun h => by have h : _ = _ := h; omega)) (hFJ24 _ (fun h => by have h : _ = _ := h; omega))) KJ24 (by unfold sp_br; rw [if_pos ⟨hc13, hc20⟩]) (by omega)
