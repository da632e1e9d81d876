theorem sp_MO.blk {b : Nat} {I J : dz_Hp} {W T n : Int} {g : Int → Int} {c : Nat} {S : Nat → sp_Ru} {w : Int} {nb : Nat} {Bk : Nat → sp_Bk} {H : List Int} (M : sp_MO b I W T n g c S w nb Bk H) (hnb : nb < 12) {y : sp_Bk} (hy : sp_bok y)
    (hF : sp_fb b nb (dz_up (dz_up (dz_up I (b + 130) 0 0) (b + 137) (nb : Int) y.1) (b + 138) (nb : Int) 0) J) (hN : sp_N b J nb y.2) : sp_MO b (dz_up (dz_up J (b + 130) 12 ((nb : Int) + 1)) (b + 130) 3 0) W T 0 (fun _ => 0) c S w (nb + 1) (sp_setB Bk nb y) H ∧ dz_up (dz_up J (b + 130) 12 ((nb : Int) + 1)) (b + 130) 3 0 (b + 130) 0 = 0 := by
  obtain ⟨a1, a2, a3, a4, a5, a6, a7⟩ := M
  have k1 : ∀ q, q < b + 137 → q ≠ b + 130 → J q = I q := fun q h1 h2 => by rw [hF.at (by omega), dz_up_n _ _ _ (by omega), dz_up_n _ _ _ (by omega), dz_up_n _ _ _ h2]
  have k2 : ∀ k : Int, k ≠ 0 → J (b + 130) k = I (b + 130) k := fun k hk => by rw [hF.at (by omega), dz_up_n _ _ _ (by omega), dz_up_n _ _ _ (by omega), dz_up_k _ _ _ hk]
  have k3 : J (b + 141) = I (b + 141) := by rw [hF.at (by omega), dz_up_n _ _ _ (by omega), dz_up_n _ _ _ (by omega), dz_up_n _ _ _ (by omega)]
  have k0 : J (b + 130) 0 = 0 := by rw [hF.at (by omega), dz_up_n _ _ _ (by omega), dz_up_n _ _ _ (by omega), dz_up_s]
  have k5 : ∀ j : Int, j ≠ (nb : Int) → J (b + 137) j = I (b + 137) j := fun j hj => by rw [hF.at (by omega), dz_up_n _ _ _ (by omega), dz_up_k _ _ _ hj, dz_up_n _ _ _ (by omega)]
  have k6 : ∀ j : Int, j ≠ (nb : Int) → J (b + 138) j = I (b + 138) j := fun j hj => by rw [hF.2.1 j hj, dz_up_k _ _ _ hj, dz_up_n _ _ _ (by omega), dz_up_n _ _ _ (by omega)]
  have k7 : ∀ j : Int, j < 240 * (nb : Int) → J (b + 139) j = I (b + 139) j := fun j hj => by rw [hF.2.2.1 j hj, dz_up_n _ _ _ (by omega), dz_up_n _ _ _ (by omega), dz_up_n _ _ _ (by omega)]
  have k8 : ∀ j : Int, j < 240 * (nb : Int) → J (b + 140) j = I (b + 140) j := fun j hj => by rw [hF.2.2.2 j hj, dz_up_n _ _ _ (by omega), dz_up_n _ _ _ (by omega), dz_up_n _ _ _ (by omega)]
  have k9 : J (b + 137) (nb : Int) = y.1 := by rw [hF.at (by omega), dz_up_n _ _ _ (by omega), dz_up_s]
  have u : ∀ q, q ≠ b + 130 → dz_up (dz_up J (b + 130) 12 ((nb : Int) + 1)) (b + 130) 3 0 q = J q := fun q hq => by rw [dz_up_n _ _ _ hq, dz_up_n _ _ _ hq]
  have v : ∀ k : Int, k ≠ 3 → k ≠ 12 → dz_up (dz_up J (b + 130) 12 ((nb : Int) + 1)) (b + 130) 3 0 (b + 130) k = J (b + 130) k := fun k h1 h2 => by rw [dz_up_k _ _ _ h1, dz_up_k _ _ _ h2]
  refine ⟨⟨a1, ?_, sp_MT_0 (dz_up_s _ _ _ _), ?_, ?_, ?_, ?_⟩, by rw [v 0 (by decide) (by decide)]; exact k0⟩
  · rw [v 1 (by decide) (by decide), v 2 (by decide) (by decide), k2 1 (by decide), k2 2 (by decide)]; exact a2
  · exact a4.fr (by rw [v 5 (by decide) (by decide), k2 5 (by decide)]) (fun q q1 q2 => by rw [u _ (by omega), k1 _ (by omega) (by omega)])
  · rw [v 11 (by decide) (by decide), k2 11 (by decide)]; exact a5
  · refine ⟨by rw [dz_up_k _ _ _ (by decide), dz_up_s]; omega, by omega, fun j hj => ?_⟩
    rw [u _ (by omega), u _ (by omega), u _ (by omega), u _ (by omega)]
    by_cases e : j = nb
    · subst e
      have e2 : sp_setB Bk j y j = y := if_pos rfl
      rw [e2]
      exact ⟨k9, hN.2.2.1, hN.2.2.2.2, hy⟩
    · have e2 : sp_setB Bk nb y j = Bk j := if_neg e
      rw [e2]
      obtain ⟨b1, b2, b3, b4⟩ := a6.2.2 j (by omega)
      refine ⟨by rw [k5 _ (by omega)]; exact b1, by rw [k6 _ (by omega)]; exact b2, fun i e9 he => ?_, b4⟩
      have hil : i < (Bk j).2.length := (List.getElem?_eq_some_iff.mp he).1
      have := b4.2.1
      rw [k7 _ (by omega), k8 _ (by omega)]
      exact b3 i e9 he
  · exact a7.fr (by rw [v 17 (by decide) (by decide), k2 17 (by decide)]) (by rw [v 28 (by decide) (by decide), k2 28 (by decide)]) (by rw [u _ (by omega), k3])
set_option maxRecDepth 100000 in
set_option maxHeartbeats 4000000 in
theorem c_Model_block (l : Launch) (D : va_G) (Dt : Nat → ClassId) (b sz : Nat) (I : dz_Hp) (W T n : Int) (g : Int → Int) (c : Nat) (S : Nat → sp_Ru) (w : Int) (nb : Nat) (Bk : Nat → sp_Bk) (H : List Int) (MI : sp_MO b I W T n g c S w nb Bk H) (k : Int) (hk : -2147483648 ≤ k ∧ k < 2147483648) : ly_M l D Dt b sz y_Model_block b_Model_block 5 (some .int) 6 [.ref (b + 130), .int (dz_i k)] I (fun v I' => sp_fr I I' (fun q => b + 130 ≤ q ∧ q < b + 145) ∧ ((¬ (0 ≤ k ∧ k ≤ 3 ∧ sp_cb n g = true) ∧ v = some (.int (dz_i 0)) ∧ I' (b + 130) 0 = 1 ∧ sp_MO b I' W T n g c S w nb Bk H) ∨ ((0 ≤ k ∧ k ≤ 3 ∧ sp_cb n g = true) ∧ 12 ≤ nb ∧ v = some (.int (dz_i 0)) ∧ I' (b + 130) 0 = 2 ∧ sp_MO b I' W T n g c S w nb Bk H) ∨ ((0 ≤ k ∧ k ≤ 3 ∧ sp_cb n g = true) ∧ nb < 12 ∧ v = some (.int (dz_i ((nb : Int) + 1))) ∧ I' (b + 130) 0 = 0 ∧ sp_MO b I' W T 0 (fun _ => 0) c S w (nb + 1) (sp_setB Bk nb (k, (if k = 3 then [] else sp_tr g c S n.toNat 0))) H))) := by
  refine ly_enter R_Model (by decide) rfl (Nat.le_of_ble_eq_true rfl) (ly_cat _ 0 rfl) (fun κ x => ?_)
  have hN := ly_N x
  obtain ⟨⟨hW, hT⟩, hWT, TI, RI, hw1, BI, HI⟩ := id MI
  have hn9 := TI.2.1.1
  have hc24 := RI.2.1
  have hnb := BI.2.1
  have hHl := HI.2.1
  have k83 : ∀ fb : Bool, fb = (decide (0 ≤ k ∧ k ≤ 3) && sp_cb n g) → ly_V κ b sz I 83 [(0, .ref (b + 130)), (1, .int (dz_i k)), (2, .int (dz_i (if fb = true then 1 else 0))), (3, .int (dz_i n))] [] := by
    intro fb hfb
    refine dz_aload_n x.1 0 d_Model_block_83 rfl rfl ?_
    refine dz_iload_n x.1 2 d_Model_block_84 rfl rfl ?_
    refine dz_if_ne (tgt := 92) x.1 d_Model_block_85 (by decide) (dz_br _) (fun hc85 => ?_) (fun hc85 => ?_)
    · have hc85 : fb = true := dz_bt hc85
      refine dz_aload_n x.1 0 d_Model_block_92 rfl rfl ?_
      refine dz_geti (z := (nb : Int)) x.1 (ly_Model b) fl_Model_100 d_Model_block_93 BI.1 ?_
      refine dz_bipush x.1 d_Model_block_96 (by decide) ?_
      refine dz_icmp_ne (tgt := 105) x.1 d_Model_block_98 (by decide) (by omega) (by omega) (fun hc98 => ?_) (fun hc98 => ?_)
      · refine dz_iconst x.1 d_Model_block_105 ?_
        refine dz_puti x.1 (ly_Model b) fl_Model_63 fp_Model_0 d_Model_block_106 ?_
        refine dz_aload_n x.1 0 d_Model_block_109 rfl rfl ?_
        refine dz_geti (z := 0) x.1 (ly_Model b) fl_Model_63 d_Model_block_110 (dz_up_s _ _ _ _) ?_
        refine dz_if_eq (tgt := 118) x.1 d_Model_block_113 (by decide) (by omega) (fun hc113 => ?_) (fun hc113 => by exfalso; omega)
        have hok : (0 ≤ k ∧ k ≤ 3 ∧ sp_cb n g = true) := by
          rw [hfb, Bool.and_eq_true_iff] at hc85
          exact ⟨(of_decide_eq_true hc85.1).1, (of_decide_eq_true hc85.1).2, hc85.2⟩
        have hnb12 : nb < 12 := by omega
        have hOO : ((if k = 3 then [] else sp_tr g c S n.toNat 0) : List (Int × Int)).length ≤ 200 ∧ ∀ e ∈ ((if k = 3 then [] else sp_tr g c S n.toNat 0) : List (Int × Int)), (0 ≤ e.1 ∧ e.1 < 64) ∧ 0 ≤ e.2 ∧ e.2 ≤ 80 := by
          by_cases h3 : k = 3
          · rw [if_pos h3]; exact ⟨by simp, fun e he => by simp at he⟩
          · rw [if_neg h3]; exact sp_tr_len TI.2.1 RI.wf
        obtain ⟨K, hK⟩ : ∃ K, K = dz_up (dz_up (dz_up I (b + 130) 0 0) (b + 137) (nb : Int) k) (b + 138) (nb : Int) 0 := ⟨_, rfl⟩
        have k147 : ∀ (J : dz_Hp) (O : List (Int × Int)), (sp_fb b nb K J) → (sp_N b J nb O) → (O = (if k = 3 then [] else sp_tr g c S n.toNat 0)) → ly_V κ b sz J 147 [(0, .ref (b + 130)), (1, .int (dz_i k)), (2, .int (dz_i (if fb = true then 1 else 0))), (3, .int (dz_i n))] [] := by
          intro J O FJ NJ hO
          have hy : sp_bok (k, O) := ⟨by show 0 ≤ k ∧ k ≤ 3; omega, by rw [hO]; exact hOO.1, by rw [hO]; exact hOO.2, fun h3 => by rw [hO]; exact if_pos h3⟩
          refine dz_aload_n x.1 0 d_Model_block_147 rfl rfl ?_
          refine dz_dup x.1 d_Model_block_148 rfl ?_
          refine dz_geti (z := (nb : Int)) x.1 (ly_Model b) fl_Model_100 d_Model_block_149 NJ.1 ?_
          refine dz_iconst x.1 d_Model_block_152 ?_
          refine dz_iadd (z := (nb : Int) + 1) x.1 d_Model_block_153 (by omega) ?_
          refine dz_puti x.1 (ly_Model b) fl_Model_100 fp_Model_12 d_Model_block_154 ?_
          refine dz_aload_n x.1 0 d_Model_block_157 rfl rfl ?_
          refine dz_iconst x.1 d_Model_block_158 ?_
          refine dz_puti x.1 (ly_Model b) fl_Model_80 fp_Model_3 d_Model_block_159 ?_
          refine dz_aload_n x.1 0 d_Model_block_162 rfl rfl ?_
          refine dz_geti (z := (nb : Int) + 1) x.1 (ly_Model b) fl_Model_100 d_Model_block_163 (by rw [dz_up_k _ _ _ (by omega)]; exact dz_up_s _ _ _ _) ?_
          have hfin := MI.blk hnb12 (y := (k, O)) hy (by rw [hK] at FJ; exact FJ) NJ
          rw [hK] at FJ
          exact ly_iret x d_Model_block_166 rfl ⟨(((((((sp_fr.rf (P := fun q => b + 130 ≤ q ∧ q < b + 145)).up (show b + 130 ≤ b + 130 ∧ b + 130 < b + 145 by omega)).up (show b + 130 ≤ b + 137 ∧ b + 137 < b + 145 by omega)).up (show b + 130 ≤ b + 138 ∧ b + 138 < b + 145 by omega)).tr FJ.1 (fun q h => by rcases h with h | h | h <;> omega))).up (show b + 130 ≤ b + 130 ∧ b + 130 < b + 145 by omega)).up (show b + 130 ≤ b + 130 ∧ b + 130 < b + 145 by omega), Or.inr (Or.inr ⟨hok, hnb12, rfl, hfin.2, by rw [← hO]; exact hfin.1⟩)⟩
        refine dz_aload_n x.1 0 d_Model_block_118 rfl rfl ?_
        refine dz_getr x.1 (ly_Model b) fl_Model_33 (lr_Model_13 b) d_Model_block_119 ?_
        refine dz_aload_n x.1 0 d_Model_block_122 rfl rfl ?_
        refine dz_geti (z := (nb : Int)) x.1 (ly_Model b) fl_Model_100 d_Model_block_123 (by rw [dz_up_k _ _ _ (by omega)]; exact BI.1) ?_
        refine dz_iload_n x.1 1 d_Model_block_126 rfl rfl ?_
        refine dz_iast x.1 (ly_MBlockKind b) (by decide) (by omega) d_Model_block_127 ?_
        refine dz_aload_n x.1 0 d_Model_block_128 rfl rfl ?_
        refine dz_getr x.1 (ly_Model b) fl_Model_36 (lr_Model_14 b) d_Model_block_129 ?_
        refine dz_aload_n x.1 0 d_Model_block_132 rfl rfl ?_
        refine dz_geti (z := (nb : Int)) x.1 (ly_Model b) fl_Model_100 d_Model_block_133 (by rw [dz_up_n _ _ _ (by omega)]; rw [dz_up_k _ _ _ (by omega)]; exact BI.1) ?_
        refine dz_iconst x.1 d_Model_block_136 ?_
        refine dz_iast x.1 (ly_MSizes b) (by decide) (by omega) d_Model_block_137 ?_
        rw [← hK]
        have NK : sp_N b K nb [] := by rw [hK]; exact ⟨by rw [dz_up_n _ _ _ (by omega), dz_up_n _ _ _ (by omega), dz_up_k _ _ _ (by decide)]; exact BI.1, hnb12, dz_up_s _ _ _ _, by simp, fun i e he => by simp at he⟩
        have TK : sp_MT b K n g := by rw [hK]; exact TI.fr (by rw [dz_up_n _ _ _ (by omega), dz_up_n _ _ _ (by omega), dz_up_k _ _ _ (by decide)]) (by rw [dz_up_n _ _ _ (by omega), dz_up_n _ _ _ (by omega), dz_up_n _ _ _ (by omega)])
        have RK : sp_MR b K c S := by rw [hK]; exact RI.fr (by rw [dz_up_n _ _ _ (by omega), dz_up_n _ _ _ (by omega), dz_up_k _ _ _ (by decide)]) (fun q q1 q2 => by rw [dz_up_n _ _ _ (by omega), dz_up_n _ _ _ (by omega), dz_up_n _ _ _ (by omega)])
        show ly_V κ b sz K 138 [(0, .ref (b + 130)), (1, .int (dz_i k)), (2, .int (dz_i (if fb = true then 1 else 0))), (3, .int (dz_i n))] []
        refine dz_iload_n x.1 1 d_Model_block_138 rfl rfl ?_
        refine dz_iconst x.1 d_Model_block_139 ?_
        refine dz_icmp_eq (tgt := 147) x.1 d_Model_block_140 (by decide) (by omega) (by omega) (fun hc140 => ?_) (fun hc140 => ?_)
        · exact k147 K [] sp_fb.rf NK (if_pos hc140).symm
        · refine dz_aload_n x.1 0 d_Model_block_143 rfl rfl ?_
          refine ly_callV (rest := []) x cl_Model_132 (c_Model_translate l D Dt b sz K n g TK c S RK nb NK (sp_tr_len TI.2.1 RI.wf).1) (by decide) (ly_Model b) rfl rfl rfl rfl (Nat.le_of_ble_eq_true rfl) d_Model_block_144 (fun v J144 hp144 => ?_)
          obtain ⟨rfl, F144, N144⟩ := hp144
          show ly_V κ b sz J144 147 [(0, .ref (b + 130)), (1, .int (dz_i k)), (2, .int (dz_i (if fb = true then 1 else 0))), (3, .int (dz_i n))] []
          exact k147 J144 _ F144 N144 (if_neg hc140).symm
      · refine dz_iconst x.1 d_Model_block_101 ?_
        refine dz_goto (tgt := 106) x.1 d_Model_block_102 (by decide) ?_
        refine dz_puti x.1 (ly_Model b) fl_Model_63 fp_Model_0 d_Model_block_106 ?_
        refine dz_aload_n x.1 0 d_Model_block_109 rfl rfl ?_
        refine dz_geti (z := 2) x.1 (ly_Model b) fl_Model_63 d_Model_block_110 (dz_up_s _ _ _ _) ?_
        refine dz_if_eq (tgt := 118) x.1 d_Model_block_113 (by decide) (by omega) (fun hc113 => by exfalso; omega) (fun hc113 => ?_)
        refine dz_iconst x.1 d_Model_block_116 ?_
        exact ly_iret x d_Model_block_117 rfl ⟨((sp_fr.rf (P := fun q => b + 130 ≤ q ∧ q < b + 145)).up (show b + 130 ≤ b + 130 ∧ b + 130 < b + 145 by omega)), Or.inr (Or.inl ⟨by rw [hfb, Bool.and_eq_true_iff] at hc85; exact ⟨(of_decide_eq_true hc85.1).1, (of_decide_eq_true hc85.1).2, hc85.2⟩, by omega, rfl, dz_up_s _ _ _ _, MI.thr _⟩)⟩
    · have hc85 : ¬ (fb = true) := dz_bf hc85
      refine dz_iconst x.1 d_Model_block_88 ?_
      refine dz_goto (tgt := 106) x.1 d_Model_block_89 (by decide) ?_
      refine dz_puti x.1 (ly_Model b) fl_Model_63 fp_Model_0 d_Model_block_106 ?_
      refine dz_aload_n x.1 0 d_Model_block_109 rfl rfl ?_
      refine dz_geti (z := 1) x.1 (ly_Model b) fl_Model_63 d_Model_block_110 (dz_up_s _ _ _ _) ?_
      refine dz_if_eq (tgt := 118) x.1 d_Model_block_113 (by decide) (by omega) (fun hc113 => by exfalso; omega) (fun hc113 => ?_)
      refine dz_iconst x.1 d_Model_block_116 ?_
      exact ly_iret x d_Model_block_117 rfl ⟨((sp_fr.rf (P := fun q => b + 130 ≤ q ∧ q < b + 145)).up (show b + 130 ≤ b + 130 ∧ b + 130 < b + 145 by omega)), Or.inl ⟨fun hz => hc85 (by rw [hfb, Bool.and_eq_true_iff]; exact ⟨decide_eq_true ⟨hz.1, hz.2.1⟩, hz.2.2⟩), rfl, dz_up_s _ _ _ _, MI.thr _⟩⟩
  have loop : ∀ (k9 : Nat) (i : Int) (fb : Bool), (0 ≤ i ∧ i + (k9 : Int) = n) → (fb = (decide (0 ≤ k ∧ k ≤ 3) && sp_all (fun j => sp_has (g j)) i.toNat)) → ly_V κ b sz I 17 [(0, .ref (b + 130)), (1, .int (dz_i k)), (2, .int (dz_i (if fb = true then 1 else 0))), (3, .int (dz_i i))] [] := by
    intro k9
    induction k9 with
    | zero =>
      intro i fb hi hfb
      refine dz_iload_n x.1 3 d_Model_block_17 rfl rfl ?_
      refine dz_aload_n x.1 0 d_Model_block_18 rfl rfl ?_
      refine dz_geti (z := n) x.1 (ly_Model b) fl_Model_80 d_Model_block_19 TI.1 ?_
      refine dz_icmp_ge (tgt := 83) x.1 d_Model_block_22 (by decide) (by omega) (by omega) (fun hc22 => ?_) (fun hc22 => by exfalso; omega)
      have ei : i = n := by omega
      subst ei
      exact k83 fb hfb
    | succ k9 ih =>
      intro i fb hi hfb
      have hgi := TI.2.1.rng i
      refine dz_iload_n x.1 3 d_Model_block_17 rfl rfl ?_
      refine dz_aload_n x.1 0 d_Model_block_18 rfl rfl ?_
      refine dz_geti (z := n) x.1 (ly_Model b) fl_Model_80 d_Model_block_19 TI.1 ?_
      refine dz_icmp_ge (tgt := 83) x.1 d_Model_block_22 (by decide) (by omega) (by omega) (fun hc22 => by exfalso; omega) (fun hc22 => ?_)
      refine dz_aload_n x.1 0 d_Model_block_25 rfl rfl ?_
      refine dz_getr x.1 (ly_Model b) fl_Model_7 (lr_Model_4 b) d_Model_block_26 ?_
      refine dz_iload_n x.1 3 d_Model_block_29 rfl rfl ?_
      refine dz_cald (w := (g i)) x.1 (ly_MTyped b) (by decide) (by omega) d_Model_block_30 (TI.2.2 i (by omega) (by omega)) ?_
      refine dz_istore (ls' := [(0, .ref (b + 130)), (1, .int (dz_i k)), (2, .int (dz_i (if fb = true then 1 else 0))), (3, .int (dz_i i)), (4, .int (dz_i (g i)))]) x.1 d_Model_block_31 hN (by decide) rfl ?_
      refine dz_iload_n x.1 2 d_Model_block_33 rfl rfl ?_
      refine dz_if_eq (tgt := 75) x.1 d_Model_block_34 (by decide) (dz_br _) (fun hc34 => ?_) (fun hc34 => ?_)
      · have hc34 : ¬ (fb = true) := dz_bf hc34
        refine dz_iconst x.1 d_Model_block_75 ?_
        refine dz_istore_n (ls' := [(0, .ref (b + 130)), (1, .int (dz_i k)), (2, .int (dz_i 0)), (3, .int (dz_i i)), (4, .int (dz_i (g i)))]) x.1 d_Model_block_76 rfl hN (by decide) rfl ?_
        refine dz_iinc (z := i + 1) (ls' := [(0, .ref (b + 130)), (1, .int (dz_i k)), (2, .int (dz_i 0)), (3, .int (dz_i (i + 1))), (4, .int (dz_i (g i)))]) x.1 3 d_Model_block_77 rfl hN (by decide) (by omega) rfl ?_
        refine dz_goto (tgt := 17) x.1 d_Model_block_80 (by decide) ?_
        refine dz_take 4 (ls' := [(0, .ref (b + 130)), (1, .int (dz_i k)), (2, .int (dz_i 0)), (3, .int (dz_i (i + 1)))]) rfl ?_
        exact ih (i + 1) false (by omega) (by rw [show (i + 1).toNat = i.toNat + 1 by omega]; simp only [sp_all]; rw [← Bool.and_assoc, ← hfb, show ((i.toNat : Nat) : Int) = i by omega]; first | (rw [Bool.eq_false_iff.mpr hc34]; rfl) | (unfold sp_has; rw [decide_eq_false (by rw [← sp_mk_pos]; intro hz; rcases hz with hz | hz | hz | hz; exact hc59 hz; exact hc43 hz; exact hc52 hz; omega)]; exact (Bool.and_false _).symm))
      · have hc34 : fb = true := dz_bt hc34
        refine dz_aload_n x.1 0 d_Model_block_37 rfl rfl ?_
        refine dz_iload x.1 4 d_Model_block_38 rfl ?_
        refine ly_callV (rest := []) x cl_Model_119 (c_Model_isLetter l D Dt b sz I (g i) (by omega)) (by decide) (ly_Model b) rfl rfl rfl rfl (Nat.le_of_ble_eq_true rfl) d_Model_block_40 (fun v I' hp40 => ?_)
        obtain ⟨rfl, hp40I⟩ := hp40
        have hp40I := hp40I.symm
        subst hp40I
        show ly_V κ b sz I 43 [(0, .ref (b + 130)), (1, .int (dz_i k)), (2, .int (dz_i (if fb = true then 1 else 0))), (3, .int (dz_i i)), (4, .int (dz_i (g i)))] [.int (dz_i (if (97 ≤ (g i) ∧ (g i) ≤ 122) ∨ (65 ≤ (g i) ∧ (g i) ≤ 90) then 1 else 0))]
        refine dz_if_ne (tgt := 71) x.1 d_Model_block_43 (by decide) (dz_br _) (fun hc43 => ?_) (fun hc43 => ?_)
        · have hc43 : (97 ≤ (g i) ∧ (g i) ≤ 122) ∨ (65 ≤ (g i) ∧ (g i) ≤ 90) := dz_bt hc43
          refine dz_iconst x.1 d_Model_block_71 ?_
          refine dz_goto (tgt := 76) x.1 d_Model_block_72 (by decide) ?_
          refine dz_istore_n (ls' := [(0, .ref (b + 130)), (1, .int (dz_i k)), (2, .int (dz_i 1)), (3, .int (dz_i i)), (4, .int (dz_i (g i)))]) x.1 d_Model_block_76 rfl hN (by decide) rfl ?_
          refine dz_iinc (z := i + 1) (ls' := [(0, .ref (b + 130)), (1, .int (dz_i k)), (2, .int (dz_i 1)), (3, .int (dz_i (i + 1))), (4, .int (dz_i (g i)))]) x.1 3 d_Model_block_77 rfl hN (by decide) (by omega) rfl ?_
          refine dz_goto (tgt := 17) x.1 d_Model_block_80 (by decide) ?_
          refine dz_take 4 (ls' := [(0, .ref (b + 130)), (1, .int (dz_i k)), (2, .int (dz_i 1)), (3, .int (dz_i (i + 1)))]) rfl ?_
          exact ih (i + 1) true (by omega) (by rw [show (i + 1).toNat = i.toNat + 1 by omega]; simp only [sp_all]; rw [← Bool.and_assoc, ← hfb, show ((i.toNat : Nat) : Int) = i by omega]; rw [hc34]; show true = (true && sp_has (g i)); unfold sp_has; rw [decide_eq_true (by rw [← sp_mk_pos]; first | exact Or.inr (Or.inl hc43) | exact Or.inr (Or.inr (Or.inl hc52)) | exact Or.inl hc59 | exact Or.inr (Or.inr (Or.inr hc68)))]; rfl)
        · have hc43 : ¬ ((97 ≤ (g i) ∧ (g i) ≤ 122) ∨ (65 ≤ (g i) ∧ (g i) ≤ 90)) := dz_bf hc43
          refine dz_aload_n x.1 0 d_Model_block_46 rfl rfl ?_
          refine dz_iload x.1 4 d_Model_block_47 rfl ?_
          refine ly_callV (rest := []) x cl_Model_125 (c_Model_isDigit l D Dt b sz I (g i) (by omega)) (by decide) (ly_Model b) rfl rfl rfl rfl (Nat.le_of_ble_eq_true rfl) d_Model_block_49 (fun v I' hp49 => ?_)
          obtain ⟨rfl, hp49I⟩ := hp49
          have hp49I := hp49I.symm
          subst hp49I
          show ly_V κ b sz I 52 [(0, .ref (b + 130)), (1, .int (dz_i k)), (2, .int (dz_i (if fb = true then 1 else 0))), (3, .int (dz_i i)), (4, .int (dz_i (g i)))] [.int (dz_i (if 48 ≤ (g i) ∧ (g i) ≤ 57 then 1 else 0))]
          refine dz_if_ne (tgt := 71) x.1 d_Model_block_52 (by decide) (dz_br _) (fun hc52 => ?_) (fun hc52 => ?_)
          · have hc52 : 48 ≤ (g i) ∧ (g i) ≤ 57 := dz_bt hc52
            refine dz_iconst x.1 d_Model_block_71 ?_
            refine dz_goto (tgt := 76) x.1 d_Model_block_72 (by decide) ?_
            refine dz_istore_n (ls' := [(0, .ref (b + 130)), (1, .int (dz_i k)), (2, .int (dz_i 1)), (3, .int (dz_i i)), (4, .int (dz_i (g i)))]) x.1 d_Model_block_76 rfl hN (by decide) rfl ?_
            refine dz_iinc (z := i + 1) (ls' := [(0, .ref (b + 130)), (1, .int (dz_i k)), (2, .int (dz_i 1)), (3, .int (dz_i (i + 1))), (4, .int (dz_i (g i)))]) x.1 3 d_Model_block_77 rfl hN (by decide) (by omega) rfl ?_
            refine dz_goto (tgt := 17) x.1 d_Model_block_80 (by decide) ?_
            refine dz_take 4 (ls' := [(0, .ref (b + 130)), (1, .int (dz_i k)), (2, .int (dz_i 1)), (3, .int (dz_i (i + 1)))]) rfl ?_
            exact ih (i + 1) true (by omega) (by rw [show (i + 1).toNat = i.toNat + 1 by omega]; simp only [sp_all]; rw [← Bool.and_assoc, ← hfb, show ((i.toNat : Nat) : Int) = i by omega]; rw [hc34]; show true = (true && sp_has (g i)); unfold sp_has; rw [decide_eq_true (by rw [← sp_mk_pos]; first | exact Or.inr (Or.inl hc43) | exact Or.inr (Or.inr (Or.inl hc52)) | exact Or.inl hc59 | exact Or.inr (Or.inr (Or.inr hc68)))]; rfl)
          · have hc52 : ¬ (48 ≤ (g i) ∧ (g i) ≤ 57) := dz_bf hc52
            refine dz_iload x.1 4 d_Model_block_55 rfl ?_
            refine dz_bipush x.1 d_Model_block_57 (by decide) ?_
            refine dz_icmp_eq (tgt := 71) x.1 d_Model_block_59 (by decide) (by omega) (by omega) (fun hc59 => ?_) (fun hc59 => ?_)
            · refine dz_iconst x.1 d_Model_block_71 ?_
              refine dz_goto (tgt := 76) x.1 d_Model_block_72 (by decide) ?_
              refine dz_istore_n (ls' := [(0, .ref (b + 130)), (1, .int (dz_i k)), (2, .int (dz_i 1)), (3, .int (dz_i i)), (4, .int (dz_i (g i)))]) x.1 d_Model_block_76 rfl hN (by decide) rfl ?_
              refine dz_iinc (z := i + 1) (ls' := [(0, .ref (b + 130)), (1, .int (dz_i k)), (2, .int (dz_i 1)), (3, .int (dz_i (i + 1))), (4, .int (dz_i (g i)))]) x.1 3 d_Model_block_77 rfl hN (by decide) (by omega) rfl ?_
              refine dz_goto (tgt := 17) x.1 d_Model_block_80 (by decide) ?_
              refine dz_take 4 (ls' := [(0, .ref (b + 130)), (1, .int (dz_i k)), (2, .int (dz_i 1)), (3, .int (dz_i (i + 1)))]) rfl ?_
              exact ih (i + 1) true (by omega) (by rw [show (i + 1).toNat = i.toNat + 1 by omega]; simp only [sp_all]; rw [← Bool.and_assoc, ← hfb, show ((i.toNat : Nat) : Int) = i by omega]; rw [hc34]; show true = (true && sp_has (g i)); unfold sp_has; rw [decide_eq_true (by rw [← sp_mk_pos]; first | exact Or.inr (Or.inl hc43) | exact Or.inr (Or.inr (Or.inl hc52)) | exact Or.inl hc59 | exact Or.inr (Or.inr (Or.inr hc68)))]; rfl)
            · refine dz_aload_n x.1 0 d_Model_block_62 rfl rfl ?_
              refine dz_iload x.1 4 d_Model_block_63 rfl ?_
              refine ly_callV (rest := []) x cl_Model_73 (c_Model_markOf l D Dt b sz I (g i) (by omega)) (by decide) (ly_Model b) rfl rfl rfl rfl (Nat.le_of_ble_eq_true rfl) d_Model_block_65 (fun v I' hp65 => ?_)
              obtain ⟨rfl, hp65I⟩ := hp65
              have hp65I := hp65I.symm
              subst hp65I
              have hmr := sp_mk_rng (g i)
              show ly_V κ b sz I 68 [(0, .ref (b + 130)), (1, .int (dz_i k)), (2, .int (dz_i (if fb = true then 1 else 0))), (3, .int (dz_i i)), (4, .int (dz_i (g i)))] [.int (dz_i (sp_mk (g i)))]
              refine dz_if_le (tgt := 75) x.1 d_Model_block_68 (by decide) (by omega) (fun hc68 => ?_) (fun hc68 => ?_)
              · refine dz_iconst x.1 d_Model_block_75 ?_
                refine dz_istore_n (ls' := [(0, .ref (b + 130)), (1, .int (dz_i k)), (2, .int (dz_i 0)), (3, .int (dz_i i)), (4, .int (dz_i (g i)))]) x.1 d_Model_block_76 rfl hN (by decide) rfl ?_
                refine dz_iinc (z := i + 1) (ls' := [(0, .ref (b + 130)), (1, .int (dz_i k)), (2, .int (dz_i 0)), (3, .int (dz_i (i + 1))), (4, .int (dz_i (g i)))]) x.1 3 d_Model_block_77 rfl hN (by decide) (by omega) rfl ?_
                refine dz_goto (tgt := 17) x.1 d_Model_block_80 (by decide) ?_
                refine dz_take 4 (ls' := [(0, .ref (b + 130)), (1, .int (dz_i k)), (2, .int (dz_i 0)), (3, .int (dz_i (i + 1)))]) rfl ?_
                exact ih (i + 1) false (by omega) (by rw [show (i + 1).toNat = i.toNat + 1 by omega]; simp only [sp_all]; rw [← Bool.and_assoc, ← hfb, show ((i.toNat : Nat) : Int) = i by omega]; first | (rw [Bool.eq_false_iff.mpr hc34]; rfl) | (unfold sp_has; rw [decide_eq_false (by rw [← sp_mk_pos]; intro hz; rcases hz with hz | hz | hz | hz; exact hc59 hz; exact hc43 hz; exact hc52 hz; omega)]; exact (Bool.and_false _).symm))
              · refine dz_iconst x.1 d_Model_block_71 ?_
                refine dz_goto (tgt := 76) x.1 d_Model_block_72 (by decide) ?_
                refine dz_istore_n (ls' := [(0, .ref (b + 130)), (1, .int (dz_i k)), (2, .int (dz_i 1)), (3, .int (dz_i i)), (4, .int (dz_i (g i)))]) x.1 d_Model_block_76 rfl hN (by decide) rfl ?_
                refine dz_iinc (z := i + 1) (ls' := [(0, .ref (b + 130)), (1, .int (dz_i k)), (2, .int (dz_i 1)), (3, .int (dz_i (i + 1))), (4, .int (dz_i (g i)))]) x.1 3 d_Model_block_77 rfl hN (by decide) (by omega) rfl ?_
                refine dz_goto (tgt := 17) x.1 d_Model_block_80 (by decide) ?_
                refine dz_take 4 (ls' := [(0, .ref (b + 130)), (1, .int (dz_i k)), (2, .int (dz_i 1)), (3, .int (dz_i (i + 1)))]) rfl ?_
                exact ih (i + 1) true (by omega) (by rw [show (i + 1).toNat = i.toNat + 1 by omega]; simp only [sp_all]; rw [← Bool.and_assoc, ← hfb, show ((i.toNat : Nat) : Int) = i by omega]; rw [hc34]; show true = (true && sp_has (g i)); unfold sp_has; rw [decide_eq_true (by rw [← sp_mk_pos]; first | exact Or.inr (Or.inl hc43) | exact Or.inr (Or.inr (Or.inl hc52)) | exact Or.inl hc59 | exact Or.inr (Or.inr (Or.inr hc68)))]; rfl)
  show ly_V κ b sz I 0 [(0, .ref (b + 130)), (1, .int (dz_i k))] []
  refine dz_iload_n x.1 1 d_Model_block_0 rfl rfl ?_
  refine dz_if_lt (tgt := 13) x.1 d_Model_block_1 (by decide) (by omega) (fun hc1 => ?_) (fun hc1 => ?_)
  · refine dz_iconst x.1 d_Model_block_13 ?_
    refine dz_istore_n (ls' := [(0, .ref (b + 130)), (1, .int (dz_i k)), (2, .int (dz_i 0))]) x.1 d_Model_block_14 rfl hN (by decide) rfl ?_
    refine dz_iconst x.1 d_Model_block_15 ?_
    refine dz_istore_n (ls' := [(0, .ref (b + 130)), (1, .int (dz_i k)), (2, .int (dz_i 0)), (3, .int (dz_i 0))]) x.1 d_Model_block_16 rfl hN (by decide) rfl ?_
    exact loop n.toNat 0 false (by omega) (by rw [decide_eq_false (by omega)]; rfl)
  · refine dz_iload_n x.1 1 d_Model_block_4 rfl rfl ?_
    refine dz_iconst x.1 d_Model_block_5 ?_
    refine dz_icmp_gt (tgt := 13) x.1 d_Model_block_6 (by decide) (by omega) (by omega) (fun hc6 => ?_) (fun hc6 => ?_)
    · refine dz_iconst x.1 d_Model_block_13 ?_
      refine dz_istore_n (ls' := [(0, .ref (b + 130)), (1, .int (dz_i k)), (2, .int (dz_i 0))]) x.1 d_Model_block_14 rfl hN (by decide) rfl ?_
      refine dz_iconst x.1 d_Model_block_15 ?_
      refine dz_istore_n (ls' := [(0, .ref (b + 130)), (1, .int (dz_i k)), (2, .int (dz_i 0)), (3, .int (dz_i 0))]) x.1 d_Model_block_16 rfl hN (by decide) rfl ?_
      exact loop n.toNat 0 false (by omega) (by rw [decide_eq_false (by omega)]; rfl)
    · refine dz_iconst x.1 d_Model_block_9 ?_
      refine dz_goto (tgt := 14) x.1 d_Model_block_10 (by decide) ?_
      refine dz_istore_n (ls' := [(0, .ref (b + 130)), (1, .int (dz_i k)), (2, .int (dz_i 1))]) x.1 d_Model_block_14 rfl hN (by decide) rfl ?_
      refine dz_iconst x.1 d_Model_block_15 ?_
      refine dz_istore_n (ls' := [(0, .ref (b + 130)), (1, .int (dz_i k)), (2, .int (dz_i 1)), (3, .int (dz_i 0))]) x.1 d_Model_block_16 rfl hN (by decide) rfl ?_
      exact loop n.toNat 0 true (by omega) (by rw [decide_eq_true (by omega)]; rfl)
