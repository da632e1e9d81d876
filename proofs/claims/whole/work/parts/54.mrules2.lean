theorem sp_MO.rul {b : Nat} {I J : dz_Hp} {W T n : Int} {g : Int → Int} {c : Nat} {S : Nat → sp_Ru} {w : Int} {nb : Nat} {Bk : Nat → sp_Bk} {H : List Int} (M : sp_MO b I W T n g c S w nb Bk H) {n' : Int} {g' : Int → Int} {c' : Nat} {S' : Nat → sp_Ru} {w' : Int} (h1 : ∀ k : Int, k = 1 ∨ k = 2 ∨ k = 12 ∨ k = 17 ∨ k = 28 → J (b + 130) k = I (b + 130) k) (h2 : ∀ q, b + 137 ≤ q → q ≤ b + 141 → J q = I q) (hT : sp_MT b J n' g') (hR : sp_MR b J c' S') (hw : J (b + 130) 11 = w' ∧ -1 ≤ w' ∧ w' ≤ 100) : sp_MO b J W T n' g' c' S' w' nb Bk H := by
  obtain ⟨a1, a2, a3, a4, a5, a6, a7⟩ := M
  exact ⟨a1, by rw [h1 1 (by omega), h1 2 (by omega)]; exact a2, hT, hR, hw, a6.fr (h1 12 (by omega)) (h2 _ (by omega) (by omega)) (h2 _ (by omega) (by omega)) (h2 _ (by omega) (by omega)) (h2 _ (by omega) (by omega)), a7.fr (h1 17 (by omega)) (h1 28 (by omega)) (h2 _ (by omega) (by omega))⟩
set_option maxRecDepth 100000 in
set_option maxHeartbeats 4000000 in
theorem c_Model_rules (l : Launch) (D : va_G) (Dt : Nat → ClassId) (b sz : Nat) (I : dz_Hp) (W T n : Int) (g : Int → Int) (c : Nat) (S : Nat → sp_Ru) (w : Int) (nb : Nat) (Bk : Nat → sp_Bk) (H : List Int) (MI : sp_MO b I W T n g c S w nb Bk H) (a : Bool) (X : Int × Nat × (Nat → sp_Ru)) (hX : X = sp_tk g n (n + 1).toNat 0 0 0 (-1) c S) : ly_M l D Dt b sz y_Model_rules b_Model_rules 7 (some .int) 4 [.ref (b + 130), .int (dz_i (if a = true then 1 else 0))] I (fun v I' => sp_fr I I' (fun q => b + 130 ≤ q ∧ q < b + 145) ∧ (((X.1 = -1 ∨ a = true) ∧ v = some (.int (dz_i (X.2.1 : Int))) ∧ I' (b + 130) 0 = 0 ∧ sp_MO b I' W T 0 (fun _ => 0) X.2.1 X.2.2 X.1 nb Bk H) ∨ (¬ (X.1 = -1 ∨ a = true) ∧ v = some (.int (dz_i 0)) ∧ I' (b + 130) 0 = 1 ∧ sp_MO b I' W T n g c S X.1 nb Bk H))) := by
  refine ly_enter R_Model (by decide) rfl (Nat.le_of_ble_eq_true rfl) (ly_cat _ 0 rfl) (fun κ x => ?_)
  have hN := ly_N x
  obtain ⟨⟨hW, hT⟩, hWT, TI, RI, hw1, BI, HI⟩ := id MI
  have hn9 := TI.2.1.1
  have hc24 := RI.2.1
  have hnb := BI.2.1
  have hHl := HI.2.1
  have hxw := sp_tk_w (g := g) (n := n) (n + 1).toNat 0 0 0 (-1) c S (by omega) (by omega) (by omega)
  rw [← hX] at hxw
  have loop : ∀ (k : Nat) (i f0 num w1 : Int) (c1 : Nat) (S1 : Nat → sp_Ru) (J : dz_Hp), (0 ≤ i ∧ i + (k : Int) = n + 1) → (0 ≤ f0 ∧ f0 ≤ i) → (0 ≤ num ∧ num ≤ i) → (-1 ≤ w1 ∧ w1 ≤ 100) → (sp_fr I J (fun q => q = b + 130 ∨ (b + 132 ≤ q ∧ q ≤ b + 136))) → (∀ k : Int, k ≠ 5 → k ≠ 11 → J (b + 130) k = I (b + 130) k) → (J (b + 130) 11 = w1) → (sp_MR b J c1 S1) → (sp_tk g n k i f0 num w1 c1 S1 = X) → ly_V κ b sz J 18 [(0, .ref (b + 130)), (1, .int (dz_i (if a = true then 1 else 0))), (2, .int (dz_i (c : Int))), (3, .int (dz_i f0)), (4, .int (dz_i num)), (5, .int (dz_i i))] [] := by
    intro k
    induction k with
    | zero =>
      intro i f0 num w1 c1 S1 J hi hf hnu hw9 hF hA hW1 hR hS
      have TJ : sp_MT b J n g := TI.fr (hA 3 (by decide) (by decide)) (hF _ (fun h => by rcases h with h | h <;> omega))
      have hgi := TI.2.1.rng i
      refine dz_iload x.1 5 d_Model_rules_18 rfl ?_
      refine dz_aload_n x.1 0 d_Model_rules_20 rfl rfl ?_
      refine dz_geti (z := n) x.1 (ly_Model b) fl_Model_80 d_Model_rules_21 TJ.1 ?_
      refine dz_icmp_gt (tgt := 96) x.1 d_Model_rules_24 (by decide) (by omega) (by omega) (fun hc24 => ?_) (fun hc24 => by exfalso; omega)
      have hX1 : X = (w1, c1, S1) := hS.symm
      refine dz_aload_n x.1 0 d_Model_rules_96 rfl rfl ?_
      refine dz_aload_n x.1 0 d_Model_rules_97 rfl rfl ?_
      refine dz_geti (z := w1) x.1 (ly_Model b) fl_Model_29 d_Model_rules_98 hW1 ?_
      refine dz_if_lt (tgt := 112) x.1 d_Model_rules_101 (by decide) (by omega) (fun hc101 => ?_) (fun hc101 => ?_)
      · refine dz_iconst x.1 d_Model_rules_112 ?_
        refine dz_puti x.1 (ly_Model b) fl_Model_63 fp_Model_0 d_Model_rules_113 ?_
        refine dz_aload_n x.1 0 d_Model_rules_116 rfl rfl ?_
        refine dz_geti (z := 0) x.1 (ly_Model b) fl_Model_63 d_Model_rules_117 (dz_up_s _ _ _ _) ?_
        refine dz_if_eq (tgt := 130) x.1 d_Model_rules_120 (by decide) (by omega) (fun hc120 => ?_) (fun hc120 => by exfalso; omega)
        refine dz_aload_n x.1 0 d_Model_rules_130 rfl rfl ?_
        refine dz_iconst x.1 d_Model_rules_131 ?_
        refine dz_puti x.1 (ly_Model b) fl_Model_80 fp_Model_3 d_Model_rules_132 ?_
        refine dz_aload_n x.1 0 d_Model_rules_135 rfl rfl ?_
        refine dz_geti (z := (c1 : Int)) x.1 (ly_Model b) fl_Model_83 d_Model_rules_136 (by rw [dz_up_k _ _ _ (by omega)]; rw [dz_up_k _ _ _ (by omega)]; exact hR.1) ?_
        have hok : (X.1 = -1 ∨ a = true) := by
          rw [hX1]
          first
            | exact Or.inl (show w1 = -1 by omega)
            | exact Or.inr hc105
        have rfl9 : some (Value.int (dz_i (c1 : Int))) = some (.int (dz_i (X.2.1 : Int))) := by rw [hX1]
        exact ly_iret x d_Model_rules_139 rfl ⟨(((hF.mono (fun q h => by rcases h with h | h <;> omega)).up (show b + 130 ≤ b + 130 ∧ b + 130 < b + 145 by omega)).up (show b + 130 ≤ b + 130 ∧ b + 130 < b + 145 by omega)), Or.inl ⟨hok, rfl9, by (repeat (first | rw [dz_up_s] | rw [dz_up_k _ _ _ (by omega)] | rw [dz_up_n _ _ _ (by omega)])), by rw [hX1]; exact MI.rul (fun k hk => by (repeat (first | rw [dz_up_s] | rw [dz_up_k _ _ _ (by omega)] | rw [dz_up_n _ _ _ (by omega)])) <;> exact hA k (by omega) (by omega)) (fun q q1 q2 => by (repeat rw [dz_up_n _ _ _ (by omega)]) <;> exact hF q (fun h => by rcases h with h | h <;> omega)) (sp_MT_0 (dz_up_s _ _ _ _)) (hR.fr (by (repeat (first | rw [dz_up_s] | rw [dz_up_k _ _ _ (by omega)] | rw [dz_up_n _ _ _ (by omega)]))) (fun q q1 q2 => by (repeat (first | rw [dz_up_s] | rw [dz_up_k _ _ _ (by omega)] | rw [dz_up_n _ _ _ (by omega)])))) ⟨by (repeat (first | rw [dz_up_s] | rw [dz_up_k _ _ _ (by omega)] | rw [dz_up_n _ _ _ (by omega)])) <;> exact hW1, hw9⟩⟩⟩
      · refine dz_iload_n x.1 1 d_Model_rules_104 rfl rfl ?_
        refine dz_if_ne (tgt := 112) x.1 d_Model_rules_105 (by decide) (dz_br _) (fun hc105 => ?_) (fun hc105 => ?_)
        · have hc105 : a = true := dz_bt hc105
          refine dz_iconst x.1 d_Model_rules_112 ?_
          refine dz_puti x.1 (ly_Model b) fl_Model_63 fp_Model_0 d_Model_rules_113 ?_
          refine dz_aload_n x.1 0 d_Model_rules_116 rfl rfl ?_
          refine dz_geti (z := 0) x.1 (ly_Model b) fl_Model_63 d_Model_rules_117 (dz_up_s _ _ _ _) ?_
          refine dz_if_eq (tgt := 130) x.1 d_Model_rules_120 (by decide) (by omega) (fun hc120 => ?_) (fun hc120 => by exfalso; omega)
          refine dz_aload_n x.1 0 d_Model_rules_130 rfl rfl ?_
          refine dz_iconst x.1 d_Model_rules_131 ?_
          refine dz_puti x.1 (ly_Model b) fl_Model_80 fp_Model_3 d_Model_rules_132 ?_
          refine dz_aload_n x.1 0 d_Model_rules_135 rfl rfl ?_
          refine dz_geti (z := (c1 : Int)) x.1 (ly_Model b) fl_Model_83 d_Model_rules_136 (by rw [dz_up_k _ _ _ (by omega)]; rw [dz_up_k _ _ _ (by omega)]; exact hR.1) ?_
          have hok : (X.1 = -1 ∨ a = true) := by
            rw [hX1]
            first
              | exact Or.inl (show w1 = -1 by omega)
              | exact Or.inr hc105
          have rfl9 : some (Value.int (dz_i (c1 : Int))) = some (.int (dz_i (X.2.1 : Int))) := by rw [hX1]
          exact ly_iret x d_Model_rules_139 rfl ⟨(((hF.mono (fun q h => by rcases h with h | h <;> omega)).up (show b + 130 ≤ b + 130 ∧ b + 130 < b + 145 by omega)).up (show b + 130 ≤ b + 130 ∧ b + 130 < b + 145 by omega)), Or.inl ⟨hok, rfl9, by (repeat (first | rw [dz_up_s] | rw [dz_up_k _ _ _ (by omega)] | rw [dz_up_n _ _ _ (by omega)])), by rw [hX1]; exact MI.rul (fun k hk => by (repeat (first | rw [dz_up_s] | rw [dz_up_k _ _ _ (by omega)] | rw [dz_up_n _ _ _ (by omega)])) <;> exact hA k (by omega) (by omega)) (fun q q1 q2 => by (repeat rw [dz_up_n _ _ _ (by omega)]) <;> exact hF q (fun h => by rcases h with h | h <;> omega)) (sp_MT_0 (dz_up_s _ _ _ _)) (hR.fr (by (repeat (first | rw [dz_up_s] | rw [dz_up_k _ _ _ (by omega)] | rw [dz_up_n _ _ _ (by omega)]))) (fun q q1 q2 => by (repeat (first | rw [dz_up_s] | rw [dz_up_k _ _ _ (by omega)] | rw [dz_up_n _ _ _ (by omega)])))) ⟨by (repeat (first | rw [dz_up_s] | rw [dz_up_k _ _ _ (by omega)] | rw [dz_up_n _ _ _ (by omega)])) <;> exact hW1, hw9⟩⟩⟩
        · have hc105 : ¬ (a = true) := dz_bf hc105
          refine dz_iconst x.1 d_Model_rules_108 ?_
          refine dz_goto (tgt := 113) x.1 d_Model_rules_109 (by decide) ?_
          refine dz_puti x.1 (ly_Model b) fl_Model_63 fp_Model_0 d_Model_rules_113 ?_
          refine dz_aload_n x.1 0 d_Model_rules_116 rfl rfl ?_
          refine dz_geti (z := 1) x.1 (ly_Model b) fl_Model_63 d_Model_rules_117 (dz_up_s _ _ _ _) ?_
          refine dz_if_eq (tgt := 130) x.1 d_Model_rules_120 (by decide) (by omega) (fun hc120 => by exfalso; omega) (fun hc120 => ?_)
          have hpre : c ≤ c1 ∧ ∀ r, r < c → S1 r = S r := by
            have h5 := sp_tk_pre (g := g) (n := n) (n + 1).toNat 0 0 0 (-1) c S
            rw [← hX, ← hS] at h5
            exact h5
          refine dz_aload_n x.1 0 d_Model_rules_123 rfl rfl ?_
          refine dz_iload_n x.1 2 d_Model_rules_124 rfl rfl ?_
          refine dz_puti x.1 (ly_Model b) fl_Model_83 fp_Model_5 d_Model_rules_125 ?_
          refine dz_iconst x.1 d_Model_rules_128 ?_
          have hno : ¬ (X.1 = -1 ∨ a = true) := by
            rw [hX1]
            intro h
            rcases h with h | h
            · have h : w1 = -1 := h
              omega
            · exact hc105 h
          refine ly_iret x d_Model_rules_129 rfl ⟨(((hF.mono (fun q h => by rcases h with h | h <;> omega)).up (show b + 130 ≤ b + 130 ∧ b + 130 < b + 145 by omega)).up (show b + 130 ≤ b + 130 ∧ b + 130 < b + 145 by omega)), Or.inr ⟨hno, rfl, by (repeat (first | rw [dz_up_s] | rw [dz_up_k _ _ _ (by omega)] | rw [dz_up_n _ _ _ (by omega)])), ?_⟩⟩
          rw [hX1]
          refine MI.rul (fun k hk => by (repeat (first | rw [dz_up_s] | rw [dz_up_k _ _ _ (by omega)] | rw [dz_up_n _ _ _ (by omega)])) <;> exact hA k (by omega) (by omega)) (fun q q1 q2 => by (repeat rw [dz_up_n _ _ _ (by omega)]) <;> exact hF q (fun h => by rcases h with h | h <;> omega)) (TJ.fr (by (repeat (first | rw [dz_up_s] | rw [dz_up_k _ _ _ (by omega)] | rw [dz_up_n _ _ _ (by omega)]))) (by (repeat (first | rw [dz_up_s] | rw [dz_up_k _ _ _ (by omega)] | rw [dz_up_n _ _ _ (by omega)])))) ⟨by (repeat (first | rw [dz_up_s] | rw [dz_up_k _ _ _ (by omega)] | rw [dz_up_n _ _ _ (by omega)])), RI.2.1, fun r hr => ?_⟩ ⟨by (repeat (first | rw [dz_up_s] | rw [dz_up_k _ _ _ (by omega)] | rw [dz_up_n _ _ _ (by omega)])) <;> exact hW1, hw9⟩
          have h9 := hR.2.2 r (by have := hpre.1; omega)
          rw [hpre.2 r hr] at h9
          unfold sp_mr at h9 ⊢
          rw [dz_up_n _ _ _ (by omega), dz_up_n _ _ _ (by omega), dz_up_n _ _ _ (by omega), dz_up_n _ _ _ (by omega), dz_up_n _ _ _ (by omega), dz_up_n _ _ _ (by omega), dz_up_n _ _ _ (by omega), dz_up_n _ _ _ (by omega), dz_up_n _ _ _ (by omega), dz_up_n _ _ _ (by omega)]
          exact h9
    | succ k ih =>
      intro i f0 num w1 c1 S1 J hi hf hnu hw9 hF hA hW1 hR hS
      have TJ : sp_MT b J n g := TI.fr (hA 3 (by decide) (by decide)) (hF _ (fun h => by rcases h with h | h <;> omega))
      have hgi := TI.2.1.rng i
      refine dz_iload x.1 5 d_Model_rules_18 rfl ?_
      refine dz_aload_n x.1 0 d_Model_rules_20 rfl rfl ?_
      refine dz_geti (z := n) x.1 (ly_Model b) fl_Model_80 d_Model_rules_21 TJ.1 ?_
      refine dz_icmp_gt (tgt := 96) x.1 d_Model_rules_24 (by decide) (by omega) (by omega) (fun hc24 => by exfalso; omega) (fun hc24 => ?_)
      refine dz_iload x.1 5 d_Model_rules_27 rfl ?_
      refine dz_aload_n x.1 0 d_Model_rules_29 rfl rfl ?_
      refine dz_geti (z := n) x.1 (ly_Model b) fl_Model_80 d_Model_rules_30 TJ.1 ?_
      refine dz_icmp_eq (tgt := 48) x.1 d_Model_rules_33 (by decide) (by omega) (by omega) (fun hc33 => ?_) (fun hc33 => ?_)
      · refine dz_aload_n x.1 0 d_Model_rules_48 rfl rfl ?_
        refine dz_iload_n x.1 3 d_Model_rules_49 rfl rfl ?_
        refine dz_iload x.1 5 d_Model_rules_50 rfl ?_
        refine ly_callV (rest := []) x cl_Model_97 (c_Model_takeRule l D Dt b sz J n g TJ c1 S1 hR f0 i (by omega) (by omega) (by first | exact Or.inl hc33 | exact Or.inr hc45)) (by decide) (ly_Model b) rfl rfl rfl rfl (Nat.le_of_ble_eq_true rfl) d_Model_rules_52 (fun v J2 hp52 => ?_)
        obtain ⟨rfl, hF2, hA2, hn2, hs2⟩ := hp52
        show ly_V κ b sz J2 55 [(0, .ref (b + 130)), (1, .int (dz_i (if a = true then 1 else 0))), (2, .int (dz_i (c : Int))), (3, .int (dz_i f0)), (4, .int (dz_i num)), (5, .int (dz_i i))] [.int (dz_i (if (sp_one g c1 S1 f0 i).isSome = true then 1 else 0))]
        refine dz_istore (ls' := [(0, .ref (b + 130)), (1, .int (dz_i (if a = true then 1 else 0))), (2, .int (dz_i (c : Int))), (3, .int (dz_i f0)), (4, .int (dz_i num)), (5, .int (dz_i i)), (6, .int (dz_i (if (sp_one g c1 S1 f0 i).isSome = true then 1 else 0)))]) x.1 d_Model_rules_55 hN (by decide) rfl ?_
        refine dz_aload_n x.1 0 d_Model_rules_57 rfl rfl ?_
        refine dz_iload x.1 6 d_Model_rules_58 rfl ?_
        refine dz_if_ne (tgt := 70) x.1 d_Model_rules_60 (by decide) (dz_br _) (fun hc60 => ?_) (fun hc60 => ?_)
        · have hc60 : (sp_one g c1 S1 f0 i).isSome = true := dz_bt hc60
          refine dz_aload_n x.1 0 d_Model_rules_70 rfl rfl ?_
          refine dz_geti (z := w1) x.1 (ly_Model b) fl_Model_29 d_Model_rules_71 (by rw [hA2 11 (by decide)]; exact hW1) ?_
          refine dz_goto (tgt := 79) x.1 d_Model_rules_74 (by decide) ?_
          refine dz_puti x.1 (ly_Model b) fl_Model_29 fp_Model_11 d_Model_rules_79 ?_
          refine dz_iload x.1 5 d_Model_rules_82 rfl ?_
          refine dz_iconst x.1 d_Model_rules_84 ?_
          refine dz_iadd (z := i + 1) x.1 d_Model_rules_85 (by omega) ?_
          refine dz_istore_n (ls' := [(0, .ref (b + 130)), (1, .int (dz_i (if a = true then 1 else 0))), (2, .int (dz_i (c : Int))), (3, .int (dz_i (i + 1))), (4, .int (dz_i num)), (5, .int (dz_i i)), (6, .int (dz_i (if (sp_one g c1 S1 f0 i).isSome = true then 1 else 0)))]) x.1 d_Model_rules_86 rfl hN (by decide) rfl ?_
          refine dz_iinc (z := num + 1) (ls' := [(0, .ref (b + 130)), (1, .int (dz_i (if a = true then 1 else 0))), (2, .int (dz_i (c : Int))), (3, .int (dz_i (i + 1))), (4, .int (dz_i (num + 1))), (5, .int (dz_i i)), (6, .int (dz_i (if (sp_one g c1 S1 f0 i).isSome = true then 1 else 0)))]) x.1 4 d_Model_rules_87 rfl hN (by decide) (by omega) rfl ?_
          refine dz_iinc (z := i + 1) (ls' := [(0, .ref (b + 130)), (1, .int (dz_i (if a = true then 1 else 0))), (2, .int (dz_i (c : Int))), (3, .int (dz_i (i + 1))), (4, .int (dz_i (num + 1))), (5, .int (dz_i (i + 1))), (6, .int (dz_i (if (sp_one g c1 S1 f0 i).isSome = true then 1 else 0)))]) x.1 5 d_Model_rules_90 rfl hN (by decide) (by omega) rfl ?_
          refine dz_goto (tgt := 18) x.1 d_Model_rules_93 (by decide) ?_
          refine dz_take 6 (ls' := [(0, .ref (b + 130)), (1, .int (dz_i (if a = true then 1 else 0))), (2, .int (dz_i (c : Int))), (3, .int (dz_i (i + 1))), (4, .int (dz_i (num + 1))), (5, .int (dz_i (i + 1)))]) rfl ?_
          by_cases h57 : (sp_one g c1 S1 f0 i).isSome = true
          · obtain ⟨u9, hu9⟩ := Option.isSome_iff_exists.mp h57
            exact ih (i + 1) (i + 1) (num + 1) w1 (c1 + 1) (sp_set S1 c1 u9) (dz_up J2 (b + 130) 11 w1) (by omega) (by omega) (by omega) hw9 ((hF.tr hF2 (fun q h => h)).up (Or.inl rfl)) (fun k h1 h2 => by rw [dz_up_k _ _ _ h2, hA2 k h1]; exact hA k h1 h2) (dz_up_s _ _ _ _) ((hs2 _ hu9).fr (dz_up_k _ _ _ (by decide)) (fun q q1 q2 => dz_up_n _ _ _ (by omega))) (by rw [← hS]; simp only [sp_tk]; rw [if_pos (by omega)]; rw [hu9])
          · exact ih (i + 1) (i + 1) (num + 1) w1 c1 S1 (dz_up J2 (b + 130) 11 w1) (by omega) (by omega) (by omega) hw9 ((hF.tr hF2 (fun q h => h)).up (Or.inl rfl)) (fun k h1 h2 => by rw [dz_up_k _ _ _ h2, hA2 k h1]; exact hA k h1 h2) (dz_up_s _ _ _ _) ((hn2 (Option.not_isSome_iff_eq_none.mp h57)).fr (dz_up_k _ _ _ (by decide)) (fun q q1 q2 => dz_up_n _ _ _ (by omega))) (by rw [← hS]; simp only [sp_tk]; rw [if_pos (by omega)]; rw [Option.not_isSome_iff_eq_none.mp h57]; show sp_tk g n k (i + 1) (i + 1) (num + 1) w1 c1 S1 = sp_tk g n k (i + 1) (i + 1) (num + 1) (if w1 = -1 then num else w1) c1 S1; rw [if_neg (by first | omega | exact absurd hc60 h57)])
        · have hc60 : ¬ ((sp_one g c1 S1 f0 i).isSome = true) := dz_bf hc60
          refine dz_aload_n x.1 0 d_Model_rules_63 rfl rfl ?_
          refine dz_geti (z := w1) x.1 (ly_Model b) fl_Model_29 d_Model_rules_64 (by rw [hA2 11 (by decide)]; exact hW1) ?_
          refine dz_if_lt (tgt := 77) x.1 d_Model_rules_67 (by decide) (by omega) (fun hc67 => ?_) (fun hc67 => ?_)
          · refine dz_iload x.1 4 d_Model_rules_77 rfl ?_
            refine dz_puti x.1 (ly_Model b) fl_Model_29 fp_Model_11 d_Model_rules_79 ?_
            refine dz_iload x.1 5 d_Model_rules_82 rfl ?_
            refine dz_iconst x.1 d_Model_rules_84 ?_
            refine dz_iadd (z := i + 1) x.1 d_Model_rules_85 (by omega) ?_
            refine dz_istore_n (ls' := [(0, .ref (b + 130)), (1, .int (dz_i (if a = true then 1 else 0))), (2, .int (dz_i (c : Int))), (3, .int (dz_i (i + 1))), (4, .int (dz_i num)), (5, .int (dz_i i)), (6, .int (dz_i (if (sp_one g c1 S1 f0 i).isSome = true then 1 else 0)))]) x.1 d_Model_rules_86 rfl hN (by decide) rfl ?_
            refine dz_iinc (z := num + 1) (ls' := [(0, .ref (b + 130)), (1, .int (dz_i (if a = true then 1 else 0))), (2, .int (dz_i (c : Int))), (3, .int (dz_i (i + 1))), (4, .int (dz_i (num + 1))), (5, .int (dz_i i)), (6, .int (dz_i (if (sp_one g c1 S1 f0 i).isSome = true then 1 else 0)))]) x.1 4 d_Model_rules_87 rfl hN (by decide) (by omega) rfl ?_
            refine dz_iinc (z := i + 1) (ls' := [(0, .ref (b + 130)), (1, .int (dz_i (if a = true then 1 else 0))), (2, .int (dz_i (c : Int))), (3, .int (dz_i (i + 1))), (4, .int (dz_i (num + 1))), (5, .int (dz_i (i + 1))), (6, .int (dz_i (if (sp_one g c1 S1 f0 i).isSome = true then 1 else 0)))]) x.1 5 d_Model_rules_90 rfl hN (by decide) (by omega) rfl ?_
            refine dz_goto (tgt := 18) x.1 d_Model_rules_93 (by decide) ?_
            refine dz_take 6 (ls' := [(0, .ref (b + 130)), (1, .int (dz_i (if a = true then 1 else 0))), (2, .int (dz_i (c : Int))), (3, .int (dz_i (i + 1))), (4, .int (dz_i (num + 1))), (5, .int (dz_i (i + 1)))]) rfl ?_
            exact ih (i + 1) (i + 1) (num + 1) num c1 S1 (dz_up J2 (b + 130) 11 num) (by omega) (by omega) (by omega) (by omega) ((hF.tr hF2 (fun q h => h)).up (Or.inl rfl)) (fun k h1 h2 => by rw [dz_up_k _ _ _ h2, hA2 k h1]; exact hA k h1 h2) (dz_up_s _ _ _ _) ((hn2 (Option.not_isSome_iff_eq_none.mp hc60)).fr (dz_up_k _ _ _ (by decide)) (fun q q1 q2 => dz_up_n _ _ _ (by omega))) (by rw [← hS]; simp only [sp_tk]; rw [if_pos (by omega)]; rw [Option.not_isSome_iff_eq_none.mp hc60]; show sp_tk g n k (i + 1) (i + 1) (num + 1) num c1 S1 = sp_tk g n k (i + 1) (i + 1) (num + 1) (if w1 = -1 then num else w1) c1 S1; rw [if_pos (by omega)])
          · refine dz_aload_n x.1 0 d_Model_rules_70 rfl rfl ?_
            refine dz_geti (z := w1) x.1 (ly_Model b) fl_Model_29 d_Model_rules_71 (by rw [hA2 11 (by decide)]; exact hW1) ?_
            refine dz_goto (tgt := 79) x.1 d_Model_rules_74 (by decide) ?_
            refine dz_puti x.1 (ly_Model b) fl_Model_29 fp_Model_11 d_Model_rules_79 ?_
            refine dz_iload x.1 5 d_Model_rules_82 rfl ?_
            refine dz_iconst x.1 d_Model_rules_84 ?_
            refine dz_iadd (z := i + 1) x.1 d_Model_rules_85 (by omega) ?_
            refine dz_istore_n (ls' := [(0, .ref (b + 130)), (1, .int (dz_i (if a = true then 1 else 0))), (2, .int (dz_i (c : Int))), (3, .int (dz_i (i + 1))), (4, .int (dz_i num)), (5, .int (dz_i i)), (6, .int (dz_i (if (sp_one g c1 S1 f0 i).isSome = true then 1 else 0)))]) x.1 d_Model_rules_86 rfl hN (by decide) rfl ?_
            refine dz_iinc (z := num + 1) (ls' := [(0, .ref (b + 130)), (1, .int (dz_i (if a = true then 1 else 0))), (2, .int (dz_i (c : Int))), (3, .int (dz_i (i + 1))), (4, .int (dz_i (num + 1))), (5, .int (dz_i i)), (6, .int (dz_i (if (sp_one g c1 S1 f0 i).isSome = true then 1 else 0)))]) x.1 4 d_Model_rules_87 rfl hN (by decide) (by omega) rfl ?_
            refine dz_iinc (z := i + 1) (ls' := [(0, .ref (b + 130)), (1, .int (dz_i (if a = true then 1 else 0))), (2, .int (dz_i (c : Int))), (3, .int (dz_i (i + 1))), (4, .int (dz_i (num + 1))), (5, .int (dz_i (i + 1))), (6, .int (dz_i (if (sp_one g c1 S1 f0 i).isSome = true then 1 else 0)))]) x.1 5 d_Model_rules_90 rfl hN (by decide) (by omega) rfl ?_
            refine dz_goto (tgt := 18) x.1 d_Model_rules_93 (by decide) ?_
            refine dz_take 6 (ls' := [(0, .ref (b + 130)), (1, .int (dz_i (if a = true then 1 else 0))), (2, .int (dz_i (c : Int))), (3, .int (dz_i (i + 1))), (4, .int (dz_i (num + 1))), (5, .int (dz_i (i + 1)))]) rfl ?_
            by_cases h57 : (sp_one g c1 S1 f0 i).isSome = true
            · obtain ⟨u9, hu9⟩ := Option.isSome_iff_exists.mp h57
              exact ih (i + 1) (i + 1) (num + 1) w1 (c1 + 1) (sp_set S1 c1 u9) (dz_up J2 (b + 130) 11 w1) (by omega) (by omega) (by omega) hw9 ((hF.tr hF2 (fun q h => h)).up (Or.inl rfl)) (fun k h1 h2 => by rw [dz_up_k _ _ _ h2, hA2 k h1]; exact hA k h1 h2) (dz_up_s _ _ _ _) ((hs2 _ hu9).fr (dz_up_k _ _ _ (by decide)) (fun q q1 q2 => dz_up_n _ _ _ (by omega))) (by rw [← hS]; simp only [sp_tk]; rw [if_pos (by omega)]; rw [hu9])
            · exact ih (i + 1) (i + 1) (num + 1) w1 c1 S1 (dz_up J2 (b + 130) 11 w1) (by omega) (by omega) (by omega) hw9 ((hF.tr hF2 (fun q h => h)).up (Or.inl rfl)) (fun k h1 h2 => by rw [dz_up_k _ _ _ h2, hA2 k h1]; exact hA k h1 h2) (dz_up_s _ _ _ _) ((hn2 (Option.not_isSome_iff_eq_none.mp h57)).fr (dz_up_k _ _ _ (by decide)) (fun q q1 q2 => dz_up_n _ _ _ (by omega))) (by rw [← hS]; simp only [sp_tk]; rw [if_pos (by omega)]; rw [Option.not_isSome_iff_eq_none.mp h57]; show sp_tk g n k (i + 1) (i + 1) (num + 1) w1 c1 S1 = sp_tk g n k (i + 1) (i + 1) (num + 1) (if w1 = -1 then num else w1) c1 S1; rw [if_neg (by first | omega | exact absurd hc60 h57)])
      · refine dz_aload_n x.1 0 d_Model_rules_36 rfl rfl ?_
        refine dz_getr x.1 (ly_Model b) fl_Model_7 (lr_Model_4 b) d_Model_rules_37 ?_
        refine dz_iload x.1 5 d_Model_rules_40 rfl ?_
        refine dz_cald (w := (g i)) x.1 (ly_MTyped b) (by decide) (by omega) d_Model_rules_42 (TJ.2.2 i (by omega) (by omega)) ?_
        refine dz_bipush x.1 d_Model_rules_43 (by decide) ?_
        refine dz_icmp_ne (tgt := 90) x.1 d_Model_rules_45 (by decide) (by omega) (by omega) (fun hc45 => ?_) (fun hc45 => ?_)
        · refine dz_iinc (z := i + 1) (ls' := [(0, .ref (b + 130)), (1, .int (dz_i (if a = true then 1 else 0))), (2, .int (dz_i (c : Int))), (3, .int (dz_i f0)), (4, .int (dz_i num)), (5, .int (dz_i (i + 1)))]) x.1 5 d_Model_rules_90 rfl hN (by decide) (by omega) rfl ?_
          refine dz_goto (tgt := 18) x.1 d_Model_rules_93 (by decide) ?_
          exact ih (i + 1) f0 num w1 c1 S1 J (by omega) (by omega) (by omega) hw9 hF hA hW1 hR (by rw [← hS]; simp only [sp_tk]; rw [if_neg (by omega)])
        · refine dz_aload_n x.1 0 d_Model_rules_48 rfl rfl ?_
          refine dz_iload_n x.1 3 d_Model_rules_49 rfl rfl ?_
          refine dz_iload x.1 5 d_Model_rules_50 rfl ?_
          refine ly_callV (rest := []) x cl_Model_97 (c_Model_takeRule l D Dt b sz J n g TJ c1 S1 hR f0 i (by omega) (by omega) (by first | exact Or.inl hc33 | exact Or.inr hc45)) (by decide) (ly_Model b) rfl rfl rfl rfl (Nat.le_of_ble_eq_true rfl) d_Model_rules_52 (fun v J2 hp52 => ?_)
          obtain ⟨rfl, hF2, hA2, hn2, hs2⟩ := hp52
          show ly_V κ b sz J2 55 [(0, .ref (b + 130)), (1, .int (dz_i (if a = true then 1 else 0))), (2, .int (dz_i (c : Int))), (3, .int (dz_i f0)), (4, .int (dz_i num)), (5, .int (dz_i i))] [.int (dz_i (if (sp_one g c1 S1 f0 i).isSome = true then 1 else 0))]
          refine dz_istore (ls' := [(0, .ref (b + 130)), (1, .int (dz_i (if a = true then 1 else 0))), (2, .int (dz_i (c : Int))), (3, .int (dz_i f0)), (4, .int (dz_i num)), (5, .int (dz_i i)), (6, .int (dz_i (if (sp_one g c1 S1 f0 i).isSome = true then 1 else 0)))]) x.1 d_Model_rules_55 hN (by decide) rfl ?_
          refine dz_aload_n x.1 0 d_Model_rules_57 rfl rfl ?_
          refine dz_iload x.1 6 d_Model_rules_58 rfl ?_
          refine dz_if_ne (tgt := 70) x.1 d_Model_rules_60 (by decide) (dz_br _) (fun hc60 => ?_) (fun hc60 => ?_)
          · have hc60 : (sp_one g c1 S1 f0 i).isSome = true := dz_bt hc60
            refine dz_aload_n x.1 0 d_Model_rules_70 rfl rfl ?_
            refine dz_geti (z := w1) x.1 (ly_Model b) fl_Model_29 d_Model_rules_71 (by rw [hA2 11 (by decide)]; exact hW1) ?_
            refine dz_goto (tgt := 79) x.1 d_Model_rules_74 (by decide) ?_
            refine dz_puti x.1 (ly_Model b) fl_Model_29 fp_Model_11 d_Model_rules_79 ?_
            refine dz_iload x.1 5 d_Model_rules_82 rfl ?_
            refine dz_iconst x.1 d_Model_rules_84 ?_
            refine dz_iadd (z := i + 1) x.1 d_Model_rules_85 (by omega) ?_
            refine dz_istore_n (ls' := [(0, .ref (b + 130)), (1, .int (dz_i (if a = true then 1 else 0))), (2, .int (dz_i (c : Int))), (3, .int (dz_i (i + 1))), (4, .int (dz_i num)), (5, .int (dz_i i)), (6, .int (dz_i (if (sp_one g c1 S1 f0 i).isSome = true then 1 else 0)))]) x.1 d_Model_rules_86 rfl hN (by decide) rfl ?_
            refine dz_iinc (z := num + 1) (ls' := [(0, .ref (b + 130)), (1, .int (dz_i (if a = true then 1 else 0))), (2, .int (dz_i (c : Int))), (3, .int (dz_i (i + 1))), (4, .int (dz_i (num + 1))), (5, .int (dz_i i)), (6, .int (dz_i (if (sp_one g c1 S1 f0 i).isSome = true then 1 else 0)))]) x.1 4 d_Model_rules_87 rfl hN (by decide) (by omega) rfl ?_
            refine dz_iinc (z := i + 1) (ls' := [(0, .ref (b + 130)), (1, .int (dz_i (if a = true then 1 else 0))), (2, .int (dz_i (c : Int))), (3, .int (dz_i (i + 1))), (4, .int (dz_i (num + 1))), (5, .int (dz_i (i + 1))), (6, .int (dz_i (if (sp_one g c1 S1 f0 i).isSome = true then 1 else 0)))]) x.1 5 d_Model_rules_90 rfl hN (by decide) (by omega) rfl ?_
            refine dz_goto (tgt := 18) x.1 d_Model_rules_93 (by decide) ?_
            refine dz_take 6 (ls' := [(0, .ref (b + 130)), (1, .int (dz_i (if a = true then 1 else 0))), (2, .int (dz_i (c : Int))), (3, .int (dz_i (i + 1))), (4, .int (dz_i (num + 1))), (5, .int (dz_i (i + 1)))]) rfl ?_
            by_cases h57 : (sp_one g c1 S1 f0 i).isSome = true
            · obtain ⟨u9, hu9⟩ := Option.isSome_iff_exists.mp h57
              exact ih (i + 1) (i + 1) (num + 1) w1 (c1 + 1) (sp_set S1 c1 u9) (dz_up J2 (b + 130) 11 w1) (by omega) (by omega) (by omega) hw9 ((hF.tr hF2 (fun q h => h)).up (Or.inl rfl)) (fun k h1 h2 => by rw [dz_up_k _ _ _ h2, hA2 k h1]; exact hA k h1 h2) (dz_up_s _ _ _ _) ((hs2 _ hu9).fr (dz_up_k _ _ _ (by decide)) (fun q q1 q2 => dz_up_n _ _ _ (by omega))) (by rw [← hS]; simp only [sp_tk]; rw [if_pos (by omega)]; rw [hu9])
            · exact ih (i + 1) (i + 1) (num + 1) w1 c1 S1 (dz_up J2 (b + 130) 11 w1) (by omega) (by omega) (by omega) hw9 ((hF.tr hF2 (fun q h => h)).up (Or.inl rfl)) (fun k h1 h2 => by rw [dz_up_k _ _ _ h2, hA2 k h1]; exact hA k h1 h2) (dz_up_s _ _ _ _) ((hn2 (Option.not_isSome_iff_eq_none.mp h57)).fr (dz_up_k _ _ _ (by decide)) (fun q q1 q2 => dz_up_n _ _ _ (by omega))) (by rw [← hS]; simp only [sp_tk]; rw [if_pos (by omega)]; rw [Option.not_isSome_iff_eq_none.mp h57]; show sp_tk g n k (i + 1) (i + 1) (num + 1) w1 c1 S1 = sp_tk g n k (i + 1) (i + 1) (num + 1) (if w1 = -1 then num else w1) c1 S1; rw [if_neg (by first | omega | exact absurd hc60 h57)])
          · have hc60 : ¬ ((sp_one g c1 S1 f0 i).isSome = true) := dz_bf hc60
            refine dz_aload_n x.1 0 d_Model_rules_63 rfl rfl ?_
            refine dz_geti (z := w1) x.1 (ly_Model b) fl_Model_29 d_Model_rules_64 (by rw [hA2 11 (by decide)]; exact hW1) ?_
            refine dz_if_lt (tgt := 77) x.1 d_Model_rules_67 (by decide) (by omega) (fun hc67 => ?_) (fun hc67 => ?_)
            · refine dz_iload x.1 4 d_Model_rules_77 rfl ?_
              refine dz_puti x.1 (ly_Model b) fl_Model_29 fp_Model_11 d_Model_rules_79 ?_
              refine dz_iload x.1 5 d_Model_rules_82 rfl ?_
              refine dz_iconst x.1 d_Model_rules_84 ?_
              refine dz_iadd (z := i + 1) x.1 d_Model_rules_85 (by omega) ?_
              refine dz_istore_n (ls' := [(0, .ref (b + 130)), (1, .int (dz_i (if a = true then 1 else 0))), (2, .int (dz_i (c : Int))), (3, .int (dz_i (i + 1))), (4, .int (dz_i num)), (5, .int (dz_i i)), (6, .int (dz_i (if (sp_one g c1 S1 f0 i).isSome = true then 1 else 0)))]) x.1 d_Model_rules_86 rfl hN (by decide) rfl ?_
              refine dz_iinc (z := num + 1) (ls' := [(0, .ref (b + 130)), (1, .int (dz_i (if a = true then 1 else 0))), (2, .int (dz_i (c : Int))), (3, .int (dz_i (i + 1))), (4, .int (dz_i (num + 1))), (5, .int (dz_i i)), (6, .int (dz_i (if (sp_one g c1 S1 f0 i).isSome = true then 1 else 0)))]) x.1 4 d_Model_rules_87 rfl hN (by decide) (by omega) rfl ?_
              refine dz_iinc (z := i + 1) (ls' := [(0, .ref (b + 130)), (1, .int (dz_i (if a = true then 1 else 0))), (2, .int (dz_i (c : Int))), (3, .int (dz_i (i + 1))), (4, .int (dz_i (num + 1))), (5, .int (dz_i (i + 1))), (6, .int (dz_i (if (sp_one g c1 S1 f0 i).isSome = true then 1 else 0)))]) x.1 5 d_Model_rules_90 rfl hN (by decide) (by omega) rfl ?_
              refine dz_goto (tgt := 18) x.1 d_Model_rules_93 (by decide) ?_
              refine dz_take 6 (ls' := [(0, .ref (b + 130)), (1, .int (dz_i (if a = true then 1 else 0))), (2, .int (dz_i (c : Int))), (3, .int (dz_i (i + 1))), (4, .int (dz_i (num + 1))), (5, .int (dz_i (i + 1)))]) rfl ?_
              exact ih (i + 1) (i + 1) (num + 1) num c1 S1 (dz_up J2 (b + 130) 11 num) (by omega) (by omega) (by omega) (by omega) ((hF.tr hF2 (fun q h => h)).up (Or.inl rfl)) (fun k h1 h2 => by rw [dz_up_k _ _ _ h2, hA2 k h1]; exact hA k h1 h2) (dz_up_s _ _ _ _) ((hn2 (Option.not_isSome_iff_eq_none.mp hc60)).fr (dz_up_k _ _ _ (by decide)) (fun q q1 q2 => dz_up_n _ _ _ (by omega))) (by rw [← hS]; simp only [sp_tk]; rw [if_pos (by omega)]; rw [Option.not_isSome_iff_eq_none.mp hc60]; show sp_tk g n k (i + 1) (i + 1) (num + 1) num c1 S1 = sp_tk g n k (i + 1) (i + 1) (num + 1) (if w1 = -1 then num else w1) c1 S1; rw [if_pos (by omega)])
            · refine dz_aload_n x.1 0 d_Model_rules_70 rfl rfl ?_
              refine dz_geti (z := w1) x.1 (ly_Model b) fl_Model_29 d_Model_rules_71 (by rw [hA2 11 (by decide)]; exact hW1) ?_
              refine dz_goto (tgt := 79) x.1 d_Model_rules_74 (by decide) ?_
              refine dz_puti x.1 (ly_Model b) fl_Model_29 fp_Model_11 d_Model_rules_79 ?_
              refine dz_iload x.1 5 d_Model_rules_82 rfl ?_
              refine dz_iconst x.1 d_Model_rules_84 ?_
              refine dz_iadd (z := i + 1) x.1 d_Model_rules_85 (by omega) ?_
              refine dz_istore_n (ls' := [(0, .ref (b + 130)), (1, .int (dz_i (if a = true then 1 else 0))), (2, .int (dz_i (c : Int))), (3, .int (dz_i (i + 1))), (4, .int (dz_i num)), (5, .int (dz_i i)), (6, .int (dz_i (if (sp_one g c1 S1 f0 i).isSome = true then 1 else 0)))]) x.1 d_Model_rules_86 rfl hN (by decide) rfl ?_
              refine dz_iinc (z := num + 1) (ls' := [(0, .ref (b + 130)), (1, .int (dz_i (if a = true then 1 else 0))), (2, .int (dz_i (c : Int))), (3, .int (dz_i (i + 1))), (4, .int (dz_i (num + 1))), (5, .int (dz_i i)), (6, .int (dz_i (if (sp_one g c1 S1 f0 i).isSome = true then 1 else 0)))]) x.1 4 d_Model_rules_87 rfl hN (by decide) (by omega) rfl ?_
              refine dz_iinc (z := i + 1) (ls' := [(0, .ref (b + 130)), (1, .int (dz_i (if a = true then 1 else 0))), (2, .int (dz_i (c : Int))), (3, .int (dz_i (i + 1))), (4, .int (dz_i (num + 1))), (5, .int (dz_i (i + 1))), (6, .int (dz_i (if (sp_one g c1 S1 f0 i).isSome = true then 1 else 0)))]) x.1 5 d_Model_rules_90 rfl hN (by decide) (by omega) rfl ?_
              refine dz_goto (tgt := 18) x.1 d_Model_rules_93 (by decide) ?_
              refine dz_take 6 (ls' := [(0, .ref (b + 130)), (1, .int (dz_i (if a = true then 1 else 0))), (2, .int (dz_i (c : Int))), (3, .int (dz_i (i + 1))), (4, .int (dz_i (num + 1))), (5, .int (dz_i (i + 1)))]) rfl ?_
              by_cases h57 : (sp_one g c1 S1 f0 i).isSome = true
              · obtain ⟨u9, hu9⟩ := Option.isSome_iff_exists.mp h57
                exact ih (i + 1) (i + 1) (num + 1) w1 (c1 + 1) (sp_set S1 c1 u9) (dz_up J2 (b + 130) 11 w1) (by omega) (by omega) (by omega) hw9 ((hF.tr hF2 (fun q h => h)).up (Or.inl rfl)) (fun k h1 h2 => by rw [dz_up_k _ _ _ h2, hA2 k h1]; exact hA k h1 h2) (dz_up_s _ _ _ _) ((hs2 _ hu9).fr (dz_up_k _ _ _ (by decide)) (fun q q1 q2 => dz_up_n _ _ _ (by omega))) (by rw [← hS]; simp only [sp_tk]; rw [if_pos (by omega)]; rw [hu9])
              · exact ih (i + 1) (i + 1) (num + 1) w1 c1 S1 (dz_up J2 (b + 130) 11 w1) (by omega) (by omega) (by omega) hw9 ((hF.tr hF2 (fun q h => h)).up (Or.inl rfl)) (fun k h1 h2 => by rw [dz_up_k _ _ _ h2, hA2 k h1]; exact hA k h1 h2) (dz_up_s _ _ _ _) ((hn2 (Option.not_isSome_iff_eq_none.mp h57)).fr (dz_up_k _ _ _ (by decide)) (fun q q1 q2 => dz_up_n _ _ _ (by omega))) (by rw [← hS]; simp only [sp_tk]; rw [if_pos (by omega)]; rw [Option.not_isSome_iff_eq_none.mp h57]; show sp_tk g n k (i + 1) (i + 1) (num + 1) w1 c1 S1 = sp_tk g n k (i + 1) (i + 1) (num + 1) (if w1 = -1 then num else w1) c1 S1; rw [if_neg (by first | omega | exact absurd hc60 h57)])
  show ly_V κ b sz I 0 [(0, .ref (b + 130)), (1, .int (dz_i (if a = true then 1 else 0)))] []
  refine dz_aload_n x.1 0 d_Model_rules_0 rfl rfl ?_
  refine dz_geti (z := (c : Int)) x.1 (ly_Model b) fl_Model_83 d_Model_rules_1 RI.1 ?_
  refine dz_istore_n (ls' := [(0, .ref (b + 130)), (1, .int (dz_i (if a = true then 1 else 0))), (2, .int (dz_i (c : Int)))]) x.1 d_Model_rules_4 rfl hN (by decide) rfl ?_
  refine dz_aload_n x.1 0 d_Model_rules_5 rfl rfl ?_
  refine dz_iconst x.1 d_Model_rules_6 ?_
  refine dz_puti x.1 (ly_Model b) fl_Model_29 fp_Model_11 d_Model_rules_7 ?_
  refine dz_iconst x.1 d_Model_rules_10 ?_
  refine dz_istore_n (ls' := [(0, .ref (b + 130)), (1, .int (dz_i (if a = true then 1 else 0))), (2, .int (dz_i (c : Int))), (3, .int (dz_i 0))]) x.1 d_Model_rules_11 rfl hN (by decide) rfl ?_
  refine dz_iconst x.1 d_Model_rules_12 ?_
  refine dz_istore (ls' := [(0, .ref (b + 130)), (1, .int (dz_i (if a = true then 1 else 0))), (2, .int (dz_i (c : Int))), (3, .int (dz_i 0)), (4, .int (dz_i 0))]) x.1 d_Model_rules_13 hN (by decide) rfl ?_
  refine dz_iconst x.1 d_Model_rules_15 ?_
  refine dz_istore (ls' := [(0, .ref (b + 130)), (1, .int (dz_i (if a = true then 1 else 0))), (2, .int (dz_i (c : Int))), (3, .int (dz_i 0)), (4, .int (dz_i 0)), (5, .int (dz_i 0))]) x.1 d_Model_rules_16 hN (by decide) rfl ?_
  exact loop (n + 1).toNat 0 0 0 (-1) c S (dz_up I (b + 130) 11 (-1)) (by omega) (by omega) (by omega) (by omega) ((sp_fr.rf (P := (fun q => q = b + 130 ∨ (b + 132 ≤ q ∧ q ≤ b + 136)))).up (Or.inl rfl)) (fun k h1 h2 => dz_up_k _ _ _ h2) (dz_up_s _ _ _ _) (RI.fr (dz_up_k _ _ _ (by decide)) (fun q h1 h2 => dz_up_n _ _ _ (by omega))) hX.symm
