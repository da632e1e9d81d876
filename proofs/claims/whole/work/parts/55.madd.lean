/-- the block that the reference is at: number and cells -/
def sp_N (b : Nat) (J : dz_Hp) (nb : Nat) (O : List (Int × Int)) : Prop := J (b + 130) 12 = (nb : Int) ∧ nb < 12 ∧ J (b + 138) (nb : Int) = (O.length : Int) ∧ O.length ≤ 200 ∧ ∀ (i : Nat) (e : Int × Int), O[i]? = some e → J (b + 139) (240 * (nb : Int) + (i : Int)) = e.1 ∧ J (b + 140) (240 * (nb : Int) + (i : Int)) = e.2
/-- nothing but the cells of block nb has changed -/
def sp_fb (b nb : Nat) (I J : dz_Hp) : Prop := sp_fr I J (fun q => q = b + 138 ∨ q = b + 139 ∨ q = b + 140) ∧ (∀ j : Int, j ≠ (nb : Int) → J (b + 138) j = I (b + 138) j) ∧ (∀ j : Int, j < 240 * (nb : Int) → J (b + 139) j = I (b + 139) j) ∧ (∀ j : Int, j < 240 * (nb : Int) → J (b + 140) j = I (b + 140) j)
theorem sp_fb.rf {b nb : Nat} {I : dz_Hp} : sp_fb b nb I I := ⟨sp_fr.rf, fun _ _ => rfl, fun _ _ => rfl, fun _ _ => rfl⟩
theorem sp_fb.tr {b nb : Nat} {I J K : dz_Hp} (h1 : sp_fb b nb I J) (h2 : sp_fb b nb J K) : sp_fb b nb I K := ⟨h1.1.tr h2.1 (fun _ h => h), fun j hj => (h2.2.1 j hj).trans (h1.2.1 j hj), fun j hj => (h2.2.2.1 j hj).trans (h1.2.2.1 j hj), fun j hj => (h2.2.2.2 j hj).trans (h1.2.2.2 j hj)⟩
theorem sp_fb.at {b nb : Nat} {I J : dz_Hp} (h : sp_fb b nb I J) {q : Nat} (hq : q < b + 138 ∨ b + 140 < q) : J q = I q := h.1 q (fun z => by rcases z with z | z | z <;> omega)
theorem sp_MT.fb {b nb : Nat} {I J : dz_Hp} {n : Int} {g : Int → Int} (h : sp_MT b I n g) (hf : sp_fb b nb I J) : sp_MT b J n g := h.fr (by rw [hf.at (by omega)]) (hf.at (by omega))
theorem sp_MR.fb {b nb : Nat} {I J : dz_Hp} {c : Nat} {S : Nat → sp_Ru} (h : sp_MR b I c S) (hf : sp_fb b nb I J) : sp_MR b J c S := h.fr (by rw [hf.at (by omega)]) (fun q q1 q2 => hf.at (by omega))
theorem sp_N.put {b nb : Nat} {I : dz_Hp} {O : List (Int × Int)} (H : sp_N b I nb O) (hl : O.length < 200) (p q : Int) : sp_N b (dz_up (dz_up (dz_up I (b + 139) (240 * (nb : Int) + (O.length : Int)) p) (b + 140) (240 * (nb : Int) + (O.length : Int)) q) (b + 138) (nb : Int) ((O.length : Int) + 1)) nb (O ++ [(p, q)]) := by
  obtain ⟨h1, h2, h3, h4, h5⟩ := H
  refine ⟨by rw [dz_up_n _ _ _ (by omega), dz_up_n _ _ _ (by omega), dz_up_n _ _ _ (by omega)]; exact h1, h2, by rw [dz_up_s]; simp, by simp; omega, fun i e he => ?_⟩
  by_cases c : i < O.length
  · rw [List.getElem?_append_left c] at he
    refine ⟨?_, ?_⟩
    · rw [dz_up_n _ _ _ (by omega), dz_up_n _ _ _ (by omega), dz_up_k _ _ _ (by omega)]; exact (h5 i e he).1
    · rw [dz_up_n _ _ _ (by omega), dz_up_k _ _ _ (by omega), dz_up_n _ _ _ (by omega)]; exact (h5 i e he).2
  · rw [List.getElem?_append_right (by omega)] at he
    have hj : i - O.length = 0 := by
      by_cases c2 : i - O.length = 0
      · exact c2
      · rw [List.getElem?_eq_none (by simp; omega)] at he; cases he
    rw [hj] at he
    have he : (p, q) = e := by simpa using he
    rw [← he, show (i : Int) = (O.length : Int) by omega]
    refine ⟨?_, ?_⟩
    · rw [dz_up_n _ _ _ (by omega), dz_up_n _ _ _ (by omega), dz_up_s]
    · rw [dz_up_n _ _ _ (by omega), dz_up_s]
set_option maxRecDepth 100000 in
set_option maxHeartbeats 4000000 in
theorem c_Model_add (l : Launch) (D : va_G) (Dt : Nat → ClassId) (b sz : Nat) (I : dz_Hp) (nb : Nat) (O : List (Int × Int)) (NI : sp_N b I nb O) (hl : O.length < 200) (p q : Int) : ly_M l D Dt b sz y_Model_add b_Model_add 3 none 1 [.ref (b + 130), .int (dz_i p), .int (dz_i q)] I (fun v I' => v = none ∧ sp_fb b nb I I' ∧ sp_N b I' nb (O ++ [(p, q)])) := by
  refine ly_enter R_Model (by decide) rfl (Nat.le_of_ble_eq_true rfl) (ly_cat _ 0 rfl) (fun κ x => ?_)
  have hN := ly_N x
  have hnb := NI.2.1
  show ly_V κ b sz I 0 [(0, .ref (b + 130)), (1, .int (dz_i p)), (2, .int (dz_i q))] []
  refine dz_aload_n x.1 0 d_Model_add_0 rfl rfl ?_
  refine dz_getr x.1 (ly_Model b) fl_Model_39 (lr_Model_15 b) d_Model_add_1 ?_
  refine dz_sipush x.1 d_Model_add_4 (by decide) ?_
  refine dz_aload_n x.1 0 d_Model_add_7 rfl rfl ?_
  refine dz_geti (z := (nb : Int)) x.1 (ly_Model b) fl_Model_100 d_Model_add_8 NI.1 ?_
  refine dz_imul (z := 240 * (nb : Int)) x.1 d_Model_add_11 (by omega) ?_
  refine dz_aload_n x.1 0 d_Model_add_12 rfl rfl ?_
  refine dz_getr x.1 (ly_Model b) fl_Model_36 (lr_Model_14 b) d_Model_add_13 ?_
  refine dz_aload_n x.1 0 d_Model_add_16 rfl rfl ?_
  refine dz_geti (z := (nb : Int)) x.1 (ly_Model b) fl_Model_100 d_Model_add_17 NI.1 ?_
  refine dz_iald (w := (O.length : Int)) x.1 (ly_MSizes b) (by decide) (by omega) d_Model_add_20 NI.2.2.1 ?_
  refine dz_iadd (z := 240 * (nb : Int) + (O.length : Int)) x.1 d_Model_add_21 (by omega) ?_
  refine dz_iload_n x.1 1 d_Model_add_22 rfl rfl ?_
  refine dz_iast x.1 (ly_MCells b) (by decide) (by omega) d_Model_add_23 ?_
  refine dz_aload_n x.1 0 d_Model_add_24 rfl rfl ?_
  refine dz_getr x.1 (ly_Model b) fl_Model_42 (lr_Model_16 b) d_Model_add_25 ?_
  refine dz_sipush x.1 d_Model_add_28 (by decide) ?_
  refine dz_aload_n x.1 0 d_Model_add_31 rfl rfl ?_
  refine dz_geti (z := (nb : Int)) x.1 (ly_Model b) fl_Model_100 d_Model_add_32 (by rw [dz_up_n _ _ _ (by omega)]; exact NI.1) ?_
  refine dz_imul (z := 240 * (nb : Int)) x.1 d_Model_add_35 (by omega) ?_
  refine dz_aload_n x.1 0 d_Model_add_36 rfl rfl ?_
  refine dz_getr x.1 (ly_Model b) fl_Model_36 (lr_Model_14 b) d_Model_add_37 ?_
  refine dz_aload_n x.1 0 d_Model_add_40 rfl rfl ?_
  refine dz_geti (z := (nb : Int)) x.1 (ly_Model b) fl_Model_100 d_Model_add_41 (by rw [dz_up_n _ _ _ (by omega)]; exact NI.1) ?_
  refine dz_iald (w := (O.length : Int)) x.1 (ly_MSizes b) (by decide) (by omega) d_Model_add_44 (by rw [dz_up_n _ _ _ (by omega)]; exact NI.2.2.1) ?_
  refine dz_iadd (z := 240 * (nb : Int) + (O.length : Int)) x.1 d_Model_add_45 (by omega) ?_
  refine dz_iload_n x.1 2 d_Model_add_46 rfl rfl ?_
  refine dz_iast x.1 (ly_MOrigins b) (by decide) (by omega) d_Model_add_47 ?_
  refine dz_aload_n x.1 0 d_Model_add_48 rfl rfl ?_
  refine dz_getr x.1 (ly_Model b) fl_Model_36 (lr_Model_14 b) d_Model_add_49 ?_
  refine dz_aload_n x.1 0 d_Model_add_52 rfl rfl ?_
  refine dz_geti (z := (nb : Int)) x.1 (ly_Model b) fl_Model_100 d_Model_add_53 (by rw [dz_up_n _ _ _ (by omega)]; rw [dz_up_n _ _ _ (by omega)]; exact NI.1) ?_
  refine dz_dup2 x.1 d_Model_add_56 rfl rfl ?_
  refine dz_iald (w := (O.length : Int)) x.1 (ly_MSizes b) (by decide) (by omega) d_Model_add_57 (by rw [dz_up_n _ _ _ (by omega)]; rw [dz_up_n _ _ _ (by omega)]; exact NI.2.2.1) ?_
  refine dz_iconst x.1 d_Model_add_58 ?_
  refine dz_iadd (z := (O.length : Int) + 1) x.1 d_Model_add_59 (by omega) ?_
  refine dz_iast x.1 (ly_MSizes b) (by decide) (by omega) d_Model_add_60 ?_
  exact ly_vret x d_Model_add_61 ⟨rfl, ⟨((sp_fr.rf.up (Or.inr (Or.inl rfl))).up (Or.inr (Or.inr rfl))).up (Or.inl rfl), fun j hj => by rw [dz_up_k _ _ _ hj, dz_up_n _ _ _ (by omega), dz_up_n _ _ _ (by omega)], fun j hj => by rw [dz_up_n _ _ _ (by omega), dz_up_n _ _ _ (by omega), dz_up_k _ _ _ (by omega)], fun j hj => by rw [dz_up_n _ _ _ (by omega), dz_up_k _ _ _ (by omega), dz_up_n _ _ _ (by omega)]⟩, NI.put hl p q⟩
set_option maxRecDepth 100000 in
set_option maxHeartbeats 4000000 in
theorem c_Model_stands (l : Launch) (D : va_G) (Dt : Nat → ClassId) (b sz : Nat) (I : dz_Hp) (n : Int) (g : Int → Int) (TI : sp_MT b I n g) (c : Nat) (S : Nat → sp_Ru) (RI : sp_MR b I c S) (r : Nat) (hrc : r < c) (p bg e : Int) (a : Bool) (he : e = sp_we g bg) (hbg : 0 ≤ bg ∧ bg ≤ p ∧ p < e ∧ e ≤ n) : ly_M l D Dt b sz y_Model_stands b_Model_stands 10 (some .boolean) 3 [.ref (b + 130), .int (dz_i (r : Int)), .int (dz_i p), .int (dz_i bg), .int (dz_i e), .int (dz_i (if a = true then 1 else 0))] I (fun v I' => v = some (.int (dz_i (if sp_mt g S bg e a p r = true then 1 else 0))) ∧ I' = I) := by
  refine ly_enter R_Model (by decide) rfl (Nat.le_of_ble_eq_true rfl) (ly_cat _ 0 rfl) (fun κ x => ?_)
  have hN := ly_N x
  have hn9 := TI.2.1.1
  have hc24 := RI.2.1
  have hr1 := RI.2.2 r hrc
  have hw0 := hr1.2.1
  have hw1 := hr1.2.2.1
  have loop : ∀ (k : Nat) (i : Int), (0 ≤ i ∧ i + (k : Int) = sp_ln (S r)) → (p + sp_ln (S r) ≤ e) → (sp_app (sp_k (S r)) (decide (p = bg)) (decide (p + sp_ln (S r) = e)) = true) → (∀ j : Int, 0 ≤ j → j < i → sp_hl g p a (S r) j = true) → ly_V κ b sz I 46 [(0, .ref (b + 130)), (1, .int (dz_i (r : Int))), (2, .int (dz_i p)), (3, .int (dz_i bg)), (4, .int (dz_i e)), (5, .int (dz_i (if a = true then 1 else 0))), (6, .int (dz_i (sp_ln (S r)))), (7, .int (dz_i 1)), (8, .int (dz_i i))] [] := by
    intro k
    induction k with
    | zero =>
      intro i hi hin hap hl
      refine dz_iload x.1 8 d_Model_stands_46 rfl ?_
      refine dz_iload x.1 6 d_Model_stands_48 rfl ?_
      refine dz_icmp_ge (tgt := 122) x.1 d_Model_stands_50 (by decide) (by omega) (by omega) (fun hc50 => ?_) (fun hc50 => by exfalso; omega)
      refine dz_iload x.1 7 d_Model_stands_122 rfl ?_
      exact ly_iret x d_Model_stands_124 (dz_nbo (by omega)) ⟨by rw [sp_bt (by unfold sp_mt; rw [sp_all_t (fun j j1 j2 => hl j j1 (by omega)), hap]; rfl)], rfl⟩
    | succ k ih =>
      intro i hi hin hap hl
      refine dz_iload x.1 8 d_Model_stands_46 rfl ?_
      refine dz_iload x.1 6 d_Model_stands_48 rfl ?_
      refine dz_icmp_ge (tgt := 122) x.1 d_Model_stands_50 (by decide) (by omega) (by omega) (fun hc50 => by exfalso; omega) (fun hc50 => ?_)
      refine dz_iload x.1 7 d_Model_stands_53 rfl ?_
      refine dz_if_eq (tgt := 122) x.1 d_Model_stands_55 (by decide) (by omega) (fun hc55 => by exfalso; omega) (fun hc55 => ?_)
      have hgi := TI.2.1.rng (p + i)
      have hlt := hr1.2.2.2.2.1 i (by omega) (by omega)
      refine dz_aload_n x.1 0 d_Model_stands_58 rfl rfl ?_
      refine dz_getr x.1 (ly_Model b) fl_Model_7 (lr_Model_4 b) d_Model_stands_59 ?_
      refine dz_iload_n x.1 2 d_Model_stands_62 rfl rfl ?_
      refine dz_iload x.1 8 d_Model_stands_63 rfl ?_
      refine dz_iadd (z := p + i) x.1 d_Model_stands_65 (by omega) ?_
      refine dz_cald (w := (g (p + i))) x.1 (ly_MTyped b) (by decide) (by omega) d_Model_stands_66 (TI.2.2 (p + i) (by omega) (by omega)) ?_
      refine dz_istore (ls' := [(0, .ref (b + 130)), (1, .int (dz_i (r : Int))), (2, .int (dz_i p)), (3, .int (dz_i bg)), (4, .int (dz_i e)), (5, .int (dz_i (if a = true then 1 else 0))), (6, .int (dz_i (sp_ln (S r)))), (7, .int (dz_i 1)), (8, .int (dz_i i)), (9, .int (dz_i (g (p + i))))]) x.1 d_Model_stands_67 hN (by decide) rfl ?_
      refine dz_aload_n x.1 0 d_Model_stands_69 rfl rfl ?_
      refine dz_iload x.1 9 d_Model_stands_70 rfl ?_
      refine ly_callV (rest := []) x cl_Model_107 (c_Model_small l D Dt b sz I (g (p + i)) (by omega)) (by decide) (ly_Model b) rfl rfl rfl rfl (Nat.le_of_ble_eq_true rfl) d_Model_stands_72 (fun v I' hp72 => ?_)
      obtain ⟨rfl, hp72I⟩ := hp72
      have hp72I := hp72I.symm
      subst hp72I
      have hsm := sp_small_rng (c := g (p + i)) (by omega)
      show ly_V κ b sz I 75 [(0, .ref (b + 130)), (1, .int (dz_i (r : Int))), (2, .int (dz_i p)), (3, .int (dz_i bg)), (4, .int (dz_i e)), (5, .int (dz_i (if a = true then 1 else 0))), (6, .int (dz_i (sp_ln (S r)))), (7, .int (dz_i 1)), (8, .int (dz_i i)), (9, .int (dz_i (g (p + i))))] [.int (dz_i (sp_small (g (p + i))))]
      refine dz_aload_n x.1 0 d_Model_stands_75 rfl rfl ?_
      refine dz_getr x.1 (ly_Model b) fl_Model_20 (lr_Model_8 b) d_Model_stands_76 ?_
      refine dz_bipush x.1 d_Model_stands_79 (by decide) ?_
      refine dz_iload_n x.1 1 d_Model_stands_81 rfl rfl ?_
      refine dz_imul (z := 6 * (r : Int)) x.1 d_Model_stands_82 (by omega) ?_
      refine dz_iload x.1 8 d_Model_stands_83 rfl ?_
      refine dz_iadd (z := 6 * (r : Int) + i) x.1 d_Model_stands_85 (by omega) ?_
      refine dz_cald (w := (sp_lt (S r) i)) x.1 (ly_MLetters b) (by decide) (by omega) d_Model_stands_86 (hr1.1.2.2.2.1 i (by omega) (by omega)) ?_
      refine dz_icmp_ne (tgt := 113) x.1 d_Model_stands_87 (by decide) (by omega) (by omega) (fun hc87 => ?_) (fun hc87 => ?_)
      · refine dz_iconst x.1 d_Model_stands_113 ?_
        refine dz_istore (ls' := [(0, .ref (b + 130)), (1, .int (dz_i (r : Int))), (2, .int (dz_i p)), (3, .int (dz_i bg)), (4, .int (dz_i e)), (5, .int (dz_i (if a = true then 1 else 0))), (6, .int (dz_i (sp_ln (S r)))), (7, .int (dz_i 0)), (8, .int (dz_i i)), (9, .int (dz_i (g (p + i))))]) x.1 d_Model_stands_114 hN (by decide) rfl ?_
        refine dz_iinc (z := i + 1) (ls' := [(0, .ref (b + 130)), (1, .int (dz_i (r : Int))), (2, .int (dz_i p)), (3, .int (dz_i bg)), (4, .int (dz_i e)), (5, .int (dz_i (if a = true then 1 else 0))), (6, .int (dz_i (sp_ln (S r)))), (7, .int (dz_i 0)), (8, .int (dz_i (i + 1))), (9, .int (dz_i (g (p + i))))]) x.1 8 d_Model_stands_116 rfl hN (by decide) (by omega) rfl ?_
        refine dz_goto (tgt := 46) x.1 d_Model_stands_119 (by decide) ?_
        refine dz_take 9 (ls' := [(0, .ref (b + 130)), (1, .int (dz_i (r : Int))), (2, .int (dz_i p)), (3, .int (dz_i bg)), (4, .int (dz_i e)), (5, .int (dz_i (if a = true then 1 else 0))), (6, .int (dz_i (sp_ln (S r)))), (7, .int (dz_i 0)), (8, .int (dz_i (i + 1)))]) rfl ?_
        have hN9 : sp_hl g p a (S r) i = false := by
          unfold sp_hl
          apply decide_eq_false
          intro hz
          first
            | (by_cases hy : a = true ∨ i = 0
               · rw [if_pos hy] at hz; exact hc87 hz
               · rw [if_neg hy] at hz; apply hc87; rw [← hz]; unfold sp_small; rw [if_neg (by omega)])
            | (rw [if_neg (by intro hy; rcases hy with hy | hy; exact hc92 hy; exact hc97 hy)] at hz
               exact hc106 (by omega))
        refine dz_iload x.1 8 d_Model_stands_46 rfl ?_
        refine dz_iload x.1 6 d_Model_stands_48 rfl ?_
        refine dz_icmp_ge (tgt := 122) x.1 d_Model_stands_50 (by decide) (by omega) (by omega) (fun hc50 => ?_) (fun hc50 => ?_)
        · refine dz_iload x.1 7 d_Model_stands_122 rfl ?_
          exact ly_iret x d_Model_stands_124 (dz_nbo (by omega)) ⟨by rw [sp_bf (by unfold sp_mt; rw [sp_all_f (j := i) (by omega) (by omega) hN9]; rfl)], rfl⟩
        · refine dz_iload x.1 7 d_Model_stands_53 rfl ?_
          refine dz_if_eq (tgt := 122) x.1 d_Model_stands_55 (by decide) (by omega) (fun hc55 => ?_) (fun hc55 => by exfalso; omega)
          refine dz_iload x.1 7 d_Model_stands_122 rfl ?_
          exact ly_iret x d_Model_stands_124 (dz_nbo (by omega)) ⟨by rw [sp_bf (by unfold sp_mt; rw [sp_all_f (j := i) (by omega) (by omega) hN9]; rfl)], rfl⟩
      · refine dz_iload x.1 5 d_Model_stands_90 rfl ?_
        refine dz_if_ne (tgt := 109) x.1 d_Model_stands_92 (by decide) (dz_br _) (fun hc92 => ?_) (fun hc92 => ?_)
        · have hc92 : a = true := dz_bt hc92
          refine dz_iconst x.1 d_Model_stands_109 ?_
          refine dz_goto (tgt := 114) x.1 d_Model_stands_110 (by decide) ?_
          refine dz_istore (ls' := [(0, .ref (b + 130)), (1, .int (dz_i (r : Int))), (2, .int (dz_i p)), (3, .int (dz_i bg)), (4, .int (dz_i e)), (5, .int (dz_i (if a = true then 1 else 0))), (6, .int (dz_i (sp_ln (S r)))), (7, .int (dz_i 1)), (8, .int (dz_i i)), (9, .int (dz_i (g (p + i))))]) x.1 d_Model_stands_114 hN (by decide) rfl ?_
          refine dz_iinc (z := i + 1) (ls' := [(0, .ref (b + 130)), (1, .int (dz_i (r : Int))), (2, .int (dz_i p)), (3, .int (dz_i bg)), (4, .int (dz_i e)), (5, .int (dz_i (if a = true then 1 else 0))), (6, .int (dz_i (sp_ln (S r)))), (7, .int (dz_i 1)), (8, .int (dz_i (i + 1))), (9, .int (dz_i (g (p + i))))]) x.1 8 d_Model_stands_116 rfl hN (by decide) (by omega) rfl ?_
          refine dz_goto (tgt := 46) x.1 d_Model_stands_119 (by decide) ?_
          refine dz_take 9 (ls' := [(0, .ref (b + 130)), (1, .int (dz_i (r : Int))), (2, .int (dz_i p)), (3, .int (dz_i bg)), (4, .int (dz_i e)), (5, .int (dz_i (if a = true then 1 else 0))), (6, .int (dz_i (sp_ln (S r)))), (7, .int (dz_i 1)), (8, .int (dz_i (i + 1)))]) rfl ?_
          have hN9 : sp_hl g p a (S r) i = true := by
            unfold sp_hl
            apply decide_eq_true
            by_cases hz : a = true ∨ i = 0
            · rw [if_pos hz]; exact hc87
            · rw [if_neg hz]
              have hsm2 : 97 ≤ g (p + i) ∧ g (p + i) ≤ 122 := by
                first
                  | exact hc106
                  | exact absurd (Or.inl hc92) hz
                  | exact absurd (Or.inr hc97) hz
              rw [← hc87]; unfold sp_small; rw [if_neg (by omega)]
          exact ih (i + 1) (by omega) hin hap (fun j j1 j2 => by
            by_cases e : j = i
            · rw [e]; exact hN9
            · exact hl j j1 (by omega))
        · have hc92 : ¬ (a = true) := dz_bf hc92
          refine dz_iload x.1 8 d_Model_stands_95 rfl ?_
          refine dz_if_eq (tgt := 109) x.1 d_Model_stands_97 (by decide) (by omega) (fun hc97 => ?_) (fun hc97 => ?_)
          · refine dz_iconst x.1 d_Model_stands_109 ?_
            refine dz_goto (tgt := 114) x.1 d_Model_stands_110 (by decide) ?_
            refine dz_istore (ls' := [(0, .ref (b + 130)), (1, .int (dz_i (r : Int))), (2, .int (dz_i p)), (3, .int (dz_i bg)), (4, .int (dz_i e)), (5, .int (dz_i (if a = true then 1 else 0))), (6, .int (dz_i (sp_ln (S r)))), (7, .int (dz_i 1)), (8, .int (dz_i i)), (9, .int (dz_i (g (p + i))))]) x.1 d_Model_stands_114 hN (by decide) rfl ?_
            refine dz_iinc (z := i + 1) (ls' := [(0, .ref (b + 130)), (1, .int (dz_i (r : Int))), (2, .int (dz_i p)), (3, .int (dz_i bg)), (4, .int (dz_i e)), (5, .int (dz_i (if a = true then 1 else 0))), (6, .int (dz_i (sp_ln (S r)))), (7, .int (dz_i 1)), (8, .int (dz_i (i + 1))), (9, .int (dz_i (g (p + i))))]) x.1 8 d_Model_stands_116 rfl hN (by decide) (by omega) rfl ?_
            refine dz_goto (tgt := 46) x.1 d_Model_stands_119 (by decide) ?_
            refine dz_take 9 (ls' := [(0, .ref (b + 130)), (1, .int (dz_i (r : Int))), (2, .int (dz_i p)), (3, .int (dz_i bg)), (4, .int (dz_i e)), (5, .int (dz_i (if a = true then 1 else 0))), (6, .int (dz_i (sp_ln (S r)))), (7, .int (dz_i 1)), (8, .int (dz_i (i + 1)))]) rfl ?_
            have hN9 : sp_hl g p a (S r) i = true := by
              unfold sp_hl
              apply decide_eq_true
              by_cases hz : a = true ∨ i = 0
              · rw [if_pos hz]; exact hc87
              · rw [if_neg hz]
                have hsm2 : 97 ≤ g (p + i) ∧ g (p + i) ≤ 122 := by
                  first
                    | exact hc106
                    | exact absurd (Or.inl hc92) hz
                    | exact absurd (Or.inr hc97) hz
                rw [← hc87]; unfold sp_small; rw [if_neg (by omega)]
            exact ih (i + 1) (by omega) hin hap (fun j j1 j2 => by
              by_cases e : j = i
              · rw [e]; exact hN9
              · exact hl j j1 (by omega))
          · refine dz_aload_n x.1 0 d_Model_stands_100 rfl rfl ?_
            refine dz_iload x.1 9 d_Model_stands_101 rfl ?_
            refine ly_callV (rest := []) x cl_Model_66 (c_Model_isSmall l D Dt b sz I (g (p + i)) (by omega)) (by decide) (ly_Model b) rfl rfl rfl rfl (Nat.le_of_ble_eq_true rfl) d_Model_stands_103 (fun v I' hp103 => ?_)
            obtain ⟨rfl, hp103I⟩ := hp103
            have hp103I := hp103I.symm
            subst hp103I
            show ly_V κ b sz I 106 [(0, .ref (b + 130)), (1, .int (dz_i (r : Int))), (2, .int (dz_i p)), (3, .int (dz_i bg)), (4, .int (dz_i e)), (5, .int (dz_i (if a = true then 1 else 0))), (6, .int (dz_i (sp_ln (S r)))), (7, .int (dz_i 1)), (8, .int (dz_i i)), (9, .int (dz_i (g (p + i))))] [.int (dz_i (if 97 ≤ g (p + i) ∧ g (p + i) ≤ 122 then 1 else 0))]
            refine dz_if_eq (tgt := 113) x.1 d_Model_stands_106 (by decide) (dz_br _) (fun hc106 => ?_) (fun hc106 => ?_)
            · have hc106 : ¬ (97 ≤ g (p + i) ∧ g (p + i) ≤ 122) := dz_bf hc106
              refine dz_iconst x.1 d_Model_stands_113 ?_
              refine dz_istore (ls' := [(0, .ref (b + 130)), (1, .int (dz_i (r : Int))), (2, .int (dz_i p)), (3, .int (dz_i bg)), (4, .int (dz_i e)), (5, .int (dz_i (if a = true then 1 else 0))), (6, .int (dz_i (sp_ln (S r)))), (7, .int (dz_i 0)), (8, .int (dz_i i)), (9, .int (dz_i (g (p + i))))]) x.1 d_Model_stands_114 hN (by decide) rfl ?_
              refine dz_iinc (z := i + 1) (ls' := [(0, .ref (b + 130)), (1, .int (dz_i (r : Int))), (2, .int (dz_i p)), (3, .int (dz_i bg)), (4, .int (dz_i e)), (5, .int (dz_i (if a = true then 1 else 0))), (6, .int (dz_i (sp_ln (S r)))), (7, .int (dz_i 0)), (8, .int (dz_i (i + 1))), (9, .int (dz_i (g (p + i))))]) x.1 8 d_Model_stands_116 rfl hN (by decide) (by omega) rfl ?_
              refine dz_goto (tgt := 46) x.1 d_Model_stands_119 (by decide) ?_
              refine dz_take 9 (ls' := [(0, .ref (b + 130)), (1, .int (dz_i (r : Int))), (2, .int (dz_i p)), (3, .int (dz_i bg)), (4, .int (dz_i e)), (5, .int (dz_i (if a = true then 1 else 0))), (6, .int (dz_i (sp_ln (S r)))), (7, .int (dz_i 0)), (8, .int (dz_i (i + 1)))]) rfl ?_
              have hN9 : sp_hl g p a (S r) i = false := by
                unfold sp_hl
                apply decide_eq_false
                intro hz
                first
                  | (by_cases hy : a = true ∨ i = 0
                     · rw [if_pos hy] at hz; exact hc87 hz
                     · rw [if_neg hy] at hz; apply hc87; rw [← hz]; unfold sp_small; rw [if_neg (by omega)])
                  | (rw [if_neg (by intro hy; rcases hy with hy | hy; exact hc92 hy; exact hc97 hy)] at hz
                     exact hc106 (by omega))
              refine dz_iload x.1 8 d_Model_stands_46 rfl ?_
              refine dz_iload x.1 6 d_Model_stands_48 rfl ?_
              refine dz_icmp_ge (tgt := 122) x.1 d_Model_stands_50 (by decide) (by omega) (by omega) (fun hc50 => ?_) (fun hc50 => ?_)
              · refine dz_iload x.1 7 d_Model_stands_122 rfl ?_
                exact ly_iret x d_Model_stands_124 (dz_nbo (by omega)) ⟨by rw [sp_bf (by unfold sp_mt; rw [sp_all_f (j := i) (by omega) (by omega) hN9]; rfl)], rfl⟩
              · refine dz_iload x.1 7 d_Model_stands_53 rfl ?_
                refine dz_if_eq (tgt := 122) x.1 d_Model_stands_55 (by decide) (by omega) (fun hc55 => ?_) (fun hc55 => by exfalso; omega)
                refine dz_iload x.1 7 d_Model_stands_122 rfl ?_
                exact ly_iret x d_Model_stands_124 (dz_nbo (by omega)) ⟨by rw [sp_bf (by unfold sp_mt; rw [sp_all_f (j := i) (by omega) (by omega) hN9]; rfl)], rfl⟩
            · have hc106 : 97 ≤ g (p + i) ∧ g (p + i) ≤ 122 := dz_bt hc106
              refine dz_iconst x.1 d_Model_stands_109 ?_
              refine dz_goto (tgt := 114) x.1 d_Model_stands_110 (by decide) ?_
              refine dz_istore (ls' := [(0, .ref (b + 130)), (1, .int (dz_i (r : Int))), (2, .int (dz_i p)), (3, .int (dz_i bg)), (4, .int (dz_i e)), (5, .int (dz_i (if a = true then 1 else 0))), (6, .int (dz_i (sp_ln (S r)))), (7, .int (dz_i 1)), (8, .int (dz_i i)), (9, .int (dz_i (g (p + i))))]) x.1 d_Model_stands_114 hN (by decide) rfl ?_
              refine dz_iinc (z := i + 1) (ls' := [(0, .ref (b + 130)), (1, .int (dz_i (r : Int))), (2, .int (dz_i p)), (3, .int (dz_i bg)), (4, .int (dz_i e)), (5, .int (dz_i (if a = true then 1 else 0))), (6, .int (dz_i (sp_ln (S r)))), (7, .int (dz_i 1)), (8, .int (dz_i (i + 1))), (9, .int (dz_i (g (p + i))))]) x.1 8 d_Model_stands_116 rfl hN (by decide) (by omega) rfl ?_
              refine dz_goto (tgt := 46) x.1 d_Model_stands_119 (by decide) ?_
              refine dz_take 9 (ls' := [(0, .ref (b + 130)), (1, .int (dz_i (r : Int))), (2, .int (dz_i p)), (3, .int (dz_i bg)), (4, .int (dz_i e)), (5, .int (dz_i (if a = true then 1 else 0))), (6, .int (dz_i (sp_ln (S r)))), (7, .int (dz_i 1)), (8, .int (dz_i (i + 1)))]) rfl ?_
              have hN9 : sp_hl g p a (S r) i = true := by
                unfold sp_hl
                apply decide_eq_true
                by_cases hz : a = true ∨ i = 0
                · rw [if_pos hz]; exact hc87
                · rw [if_neg hz]
                  have hsm2 : 97 ≤ g (p + i) ∧ g (p + i) ≤ 122 := by
                    first
                      | exact hc106
                      | exact absurd (Or.inl hc92) hz
                      | exact absurd (Or.inr hc97) hz
                  rw [← hc87]; unfold sp_small; rw [if_neg (by omega)]
              exact ih (i + 1) (by omega) hin hap (fun j j1 j2 => by
                by_cases e : j = i
                · rw [e]; exact hN9
                · exact hl j j1 (by omega))
  show ly_V κ b sz I 0 [(0, .ref (b + 130)), (1, .int (dz_i (r : Int))), (2, .int (dz_i p)), (3, .int (dz_i bg)), (4, .int (dz_i e)), (5, .int (dz_i (if a = true then 1 else 0)))] []
  refine dz_aload_n x.1 0 d_Model_stands_0 rfl rfl ?_
  refine dz_getr x.1 (ly_Model b) fl_Model_17 (lr_Model_7 b) d_Model_stands_1 ?_
  refine dz_iload_n x.1 1 d_Model_stands_4 rfl rfl ?_
  refine dz_iald (w := (sp_ln (S r))) x.1 (ly_MLetterCount b) (by decide) (by omega) d_Model_stands_5 hr1.1.2.1 ?_
  refine dz_istore (ls' := [(0, .ref (b + 130)), (1, .int (dz_i (r : Int))), (2, .int (dz_i p)), (3, .int (dz_i bg)), (4, .int (dz_i e)), (5, .int (dz_i (if a = true then 1 else 0))), (6, .int (dz_i (sp_ln (S r))))]) x.1 d_Model_stands_6 hN (by decide) rfl ?_
  refine dz_iload_n x.1 2 d_Model_stands_8 rfl rfl ?_
  refine dz_iload x.1 6 d_Model_stands_9 rfl ?_
  refine dz_iadd (z := p + (sp_ln (S r))) x.1 d_Model_stands_11 (by omega) ?_
  refine dz_iload x.1 4 d_Model_stands_12 rfl ?_
  refine dz_icmp_gt (tgt := 40) x.1 d_Model_stands_14 (by decide) (by omega) (by omega) (fun hc14 => ?_) (fun hc14 => ?_)
  · refine dz_iconst x.1 d_Model_stands_40 ?_
    refine dz_istore (ls' := [(0, .ref (b + 130)), (1, .int (dz_i (r : Int))), (2, .int (dz_i p)), (3, .int (dz_i bg)), (4, .int (dz_i e)), (5, .int (dz_i (if a = true then 1 else 0))), (6, .int (dz_i (sp_ln (S r)))), (7, .int (dz_i 0))]) x.1 d_Model_stands_41 hN (by decide) rfl ?_
    refine dz_iconst x.1 d_Model_stands_43 ?_
    refine dz_istore (ls' := [(0, .ref (b + 130)), (1, .int (dz_i (r : Int))), (2, .int (dz_i p)), (3, .int (dz_i bg)), (4, .int (dz_i e)), (5, .int (dz_i (if a = true then 1 else 0))), (6, .int (dz_i (sp_ln (S r)))), (7, .int (dz_i 0)), (8, .int (dz_i 0))]) x.1 d_Model_stands_44 hN (by decide) rfl ?_
    have hN9 : sp_mt g S bg e a p r = false := by
      cases hmt : sp_mt g S bg e a p r with
      | false => rfl
      | true =>
        exfalso
        first
          | (have h9 := sp_mt_in hr1.2 he (by omega) (by omega) hmt; omega)
          | (unfold sp_mt at hmt; exact hc33 (Bool.and_eq_true_iff.mp hmt).2)
    refine dz_iload x.1 8 d_Model_stands_46 rfl ?_
    refine dz_iload x.1 6 d_Model_stands_48 rfl ?_
    refine dz_icmp_ge (tgt := 122) x.1 d_Model_stands_50 (by decide) (by omega) (by omega) (fun hc50 => by exfalso; omega) (fun hc50 => ?_)
    refine dz_iload x.1 7 d_Model_stands_53 rfl ?_
    refine dz_if_eq (tgt := 122) x.1 d_Model_stands_55 (by decide) (by omega) (fun hc55 => ?_) (fun hc55 => by exfalso; omega)
    refine dz_iload x.1 7 d_Model_stands_122 rfl ?_
    exact ly_iret x d_Model_stands_124 (dz_nbo (by omega)) ⟨by rw [sp_bf hN9], rfl⟩
  · refine dz_aload_n x.1 0 d_Model_stands_17 rfl rfl ?_
    refine dz_aload_n x.1 0 d_Model_stands_18 rfl rfl ?_
    refine dz_getr x.1 (ly_Model b) fl_Model_13 (lr_Model_6 b) d_Model_stands_19 ?_
    refine dz_iload_n x.1 1 d_Model_stands_22 rfl rfl ?_
    refine dz_iald (w := (sp_k (S r))) x.1 (ly_MKinds b) (by decide) (by omega) d_Model_stands_23 hr1.1.1 ?_
    refine dz_iload_n x.1 2 d_Model_stands_24 rfl rfl ?_
    refine dz_iload x.1 6 d_Model_stands_25 rfl ?_
    refine dz_iload_n x.1 3 d_Model_stands_27 rfl rfl ?_
    refine dz_iload x.1 4 d_Model_stands_28 rfl ?_
    refine ly_callV (rest := []) x cl_Model_103 (c_Model_applies l D Dt b sz I (sp_k (S r)) p (sp_ln (S r)) bg e (by omega) (by omega) (by omega) (by omega) (by omega) (by omega)) (by decide) (ly_Model b) rfl rfl rfl rfl (Nat.le_of_ble_eq_true rfl) d_Model_stands_30 (fun v I' hp30 => ?_)
    obtain ⟨rfl, hp30I⟩ := hp30
    have hp30I := hp30I.symm
    subst hp30I
    show ly_V κ b sz I 33 [(0, .ref (b + 130)), (1, .int (dz_i (r : Int))), (2, .int (dz_i p)), (3, .int (dz_i bg)), (4, .int (dz_i e)), (5, .int (dz_i (if a = true then 1 else 0))), (6, .int (dz_i (sp_ln (S r))))] [.int (dz_i (if sp_app (sp_k (S r)) (decide (p = bg)) (decide (p + sp_ln (S r) = e)) = true then 1 else 0))]
    refine dz_if_eq (tgt := 40) x.1 d_Model_stands_33 (by decide) (dz_br _) (fun hc33 => ?_) (fun hc33 => ?_)
    · have hc33 : ¬ (sp_app (sp_k (S r)) (decide (p = bg)) (decide (p + sp_ln (S r) = e)) = true) := dz_bf hc33
      refine dz_iconst x.1 d_Model_stands_40 ?_
      refine dz_istore (ls' := [(0, .ref (b + 130)), (1, .int (dz_i (r : Int))), (2, .int (dz_i p)), (3, .int (dz_i bg)), (4, .int (dz_i e)), (5, .int (dz_i (if a = true then 1 else 0))), (6, .int (dz_i (sp_ln (S r)))), (7, .int (dz_i 0))]) x.1 d_Model_stands_41 hN (by decide) rfl ?_
      refine dz_iconst x.1 d_Model_stands_43 ?_
      refine dz_istore (ls' := [(0, .ref (b + 130)), (1, .int (dz_i (r : Int))), (2, .int (dz_i p)), (3, .int (dz_i bg)), (4, .int (dz_i e)), (5, .int (dz_i (if a = true then 1 else 0))), (6, .int (dz_i (sp_ln (S r)))), (7, .int (dz_i 0)), (8, .int (dz_i 0))]) x.1 d_Model_stands_44 hN (by decide) rfl ?_
      have hN9 : sp_mt g S bg e a p r = false := by
        cases hmt : sp_mt g S bg e a p r with
        | false => rfl
        | true =>
          exfalso
          first
            | (have h9 := sp_mt_in hr1.2 he (by omega) (by omega) hmt; omega)
            | (unfold sp_mt at hmt; exact hc33 (Bool.and_eq_true_iff.mp hmt).2)
      refine dz_iload x.1 8 d_Model_stands_46 rfl ?_
      refine dz_iload x.1 6 d_Model_stands_48 rfl ?_
      refine dz_icmp_ge (tgt := 122) x.1 d_Model_stands_50 (by decide) (by omega) (by omega) (fun hc50 => by exfalso; omega) (fun hc50 => ?_)
      refine dz_iload x.1 7 d_Model_stands_53 rfl ?_
      refine dz_if_eq (tgt := 122) x.1 d_Model_stands_55 (by decide) (by omega) (fun hc55 => ?_) (fun hc55 => by exfalso; omega)
      refine dz_iload x.1 7 d_Model_stands_122 rfl ?_
      exact ly_iret x d_Model_stands_124 (dz_nbo (by omega)) ⟨by rw [sp_bf hN9], rfl⟩
    · have hc33 : sp_app (sp_k (S r)) (decide (p = bg)) (decide (p + sp_ln (S r) = e)) = true := dz_bt hc33
      refine dz_iconst x.1 d_Model_stands_36 ?_
      refine dz_goto (tgt := 41) x.1 d_Model_stands_37 (by decide) ?_
      refine dz_istore (ls' := [(0, .ref (b + 130)), (1, .int (dz_i (r : Int))), (2, .int (dz_i p)), (3, .int (dz_i bg)), (4, .int (dz_i e)), (5, .int (dz_i (if a = true then 1 else 0))), (6, .int (dz_i (sp_ln (S r)))), (7, .int (dz_i 1))]) x.1 d_Model_stands_41 hN (by decide) rfl ?_
      refine dz_iconst x.1 d_Model_stands_43 ?_
      refine dz_istore (ls' := [(0, .ref (b + 130)), (1, .int (dz_i (r : Int))), (2, .int (dz_i p)), (3, .int (dz_i bg)), (4, .int (dz_i e)), (5, .int (dz_i (if a = true then 1 else 0))), (6, .int (dz_i (sp_ln (S r)))), (7, .int (dz_i 1)), (8, .int (dz_i 0))]) x.1 d_Model_stands_44 hN (by decide) rfl ?_
      exact loop (sp_ln (S r)).toNat 0 (by omega) (by omega) hc33 (fun j j1 j2 => by omega)
